set_option maxHeartbeats 4000000 in
set_option maxRecDepth 100000 in
theorem c_copyG_iC (l : Launch) (dC : Nat → ClassId) (dI : Nat → Nat → Nat) (kA : Nat → ClassId) (adK adV : Nat → Nat) (G : gT) (H0 : Heap) (nC nS : Int) (o0 : Nat) (p0 : Nat) (la : Nat) (lb : Nat) (VB : Nat → Int32)  (hT : gH (dC, dI) kA (SHc nC nS) G H0) (hr_o0 : G o0 = some 93) (hr_p0 : G p0 = some 5) (hm_la : el H0 o0 (dI 5 0) = some (.ref la)) (hr_la : G la = some 77) (hm_lb : el H0 p0 (dI 5 0) = some (.ref lb)) (hr_lb : G lb = some 25) (hc_VB : ct H0 lb 96 VB) (hgC : 0 ≤ nC ∧ nC ≤ 40) (hgS : 0 ≤ nS ∧ nS ≤ 60) : Met l yX2_copyFrom w_c_copyG_iC ({ frames := 2, cells := 0, slots := 0, locals := 60 }) (va_Pc [.ref o0, .ref p0] (fun U => U.heap = H0 ∧ va_K (dC, dI) vwCl (tyl kA) U ∧ EVC adK adV (gA G H0.size) U U.heap)) (va_Qv (fun (u : Unit) => True) (fun (_ : Unit) (t : State) => gH (dC, dI) kA (SHc nC nS) G t.heap ∧ gF (dC, dI) SKc G ([(77, 0), (78, 0), (79, 0), (80, 0), (81, 0), (82, 0), (83, 0), (84, 0), (93, 11), (93, 12), (93, 13), (93, 14)] : List (Nat × Nat)) H0 t.heap ∧ ct t.heap la 96 VB) (gA G H0.size)) 0 0 (gA G H0.size) := by
  refine Met.ofW (cc := cX2_copyFrom) (maxL := 2) (ret := none) (by decide) rfl ?_
  intro p e s m args below meth c s₁ B hml hv
  obtain ⟨rfl, hH0, hK, hE⟩ := hv
  have hx := B.exec
  have hb := B.bytes
  have hr := B.returns
  have hts := atoms_spec (ws := w_c_copyG_iC) B.pre
  have hown : s.vm.findClass RX2 = some m.cls := findClass_of_methodNamed B.named
  have hlocks := B.notSynchronized
  subst hH0
  generalize hAe : gA G s.heap.size = A at hE ⊢
  have hA : ∀ q : Nat, s.heap.size ≤ q → A q := fun q h => by rw [← hAe]; exact Or.inr h
  have hG := gA_of hAe
  have hS : va_S A s.heap s.heap [] := va_S.rf
  have hF : gF (dC, dI) SKc G ([(77, 0), (78, 0), (79, 0), (80, 0), (81, 0), (82, 0), (83, 0), (84, 0), (93, 11), (93, 12), (93, 13), (93, 14)] : List (Nat × Nat)) s.heap s.heap := gF.rf
  have hl := lv_entry ([.ref o0, .ref p0]) (n := 2) (Nat.le_of_ble_eq_true rfl)
  rw [lg_entry_eq]
  generalize (lg_sl ([.ref o0, .ref p0]) ++ List.replicate (2 - (lg_sl ([.ref o0, .ref p0])).length) Slot.unset).toArray = ls at hl ⊢
  have hl : lv_has ls 2 [(0, .ref o0), (1, .ref p0)] := hl
  refine lv_aload_n hx hb dX2_copyFrom_0 rfl (lv_at hl 1 rfl) ?_
  refine tw_getM (v := .ref lb) hx hb hts bF2_X2 hown hK hT hr_p0 shc_5 rfl 0 (by decide) (ht_at2 hts 0 rfl) (fun _ h9 => h9) hm_lb dX2_copyFrom_1 ?_
  refine lv_iconst (v := 0) hx hb dX2_copyFrom_4 (by decide) ?_
  refine lv_aload_n hx hb dX2_copyFrom_5 rfl (lv_at hl 0 rfl) ?_
  refine tw_getM (v := .ref la) hx hb hts bF2_X2 hown hK hT hr_o0 shc_93 rfl 0 (by decide) (ht_at2 hts 0 rfl) (fun _ h9 => h9) hm_la dX2_copyFrom_6 ?_
  refine lv_iconst (v := 0) hx hb dX2_copyFrom_9 (by decide) ?_
  refine lv_bipush (v := 96) hx hb dX2_copyFrom_10 (by decide) ?_
  refine tw_copyE (ty := .boolean) hx hb (hml.trans hl.1.symm) hown (ht_at2 hts 1 rfl) (ht_at2 hts 2 rfl) (ht_at2 hts 3 rfl) (ht_at2 hts 4 rfl) hK hT hG hS hr_lb hr_la shc_25 shc_77 rfl rfl (by decide) (by decide) (by decide) (by decide) (by decide) (by decide) (by decide) (fun _ _ h9 => by obtain ⟨x9, e9, a9, b9⟩ := h9; exact ⟨x9, e9, fit_b ⟨a9, b9⟩⟩) (fun _ _ _ h9 => h9) (Nat.le_of_ble_eq_true rfl) (Nat.le_of_ble_eq_true rfl) dX2_copyFrom_12 (fun H locs hT oq ce1 hS => ?_)
  have hF := hF.ast hr_la skc_77 oq (by decide)
  have m2 : ct H la 96 VB := fun i9 hi9 => (ce1 i9 (by have q8 : (96 : Int32).toNatClampNeg = 96 := (by decide); omega)).trans (hc_VB i9 hi9)
  refine lv_aload_n hx hb dX2_copyFrom_15 rfl (lv_at hl 1 rfl) ?_
  refine tw_get hx hb hts bF2_X2 hown hK hT hr_p0 shc_5 rfl 1 (by decide) (ht_at2 hts 5 rfl) (fun _ h9 => h9) dX2_copyFrom_16 (fun v9 m6 h9 => ?_)
  obtain ⟨b7, rfl, hg8⟩ := h9 _ rfl
  refine lv_iconst (v := 0) hx hb dX2_copyFrom_19 (by decide) ?_
  refine lv_aload_n hx hb dX2_copyFrom_20 rfl (lv_at hl 0 rfl) ?_
  refine tw_get hx hb hts bF2_X2 hown hK hT hr_o0 shc_93 rfl 1 (by decide) (ht_at2 hts 5 rfl) (fun _ h9 => h9) dX2_copyFrom_21 (fun v9 m9 h9 => ?_)
  obtain ⟨b10, rfl, hg11⟩ := h9 _ rfl
  refine lv_iconst (v := 0) hx hb dX2_copyFrom_24 (by decide) ?_
  refine lv_bipush (v := 96) hx hb dX2_copyFrom_25 (by decide) ?_
  refine tw_copy (ty := .int) hx hb (hml.trans hl.1.symm) hown (ht_at2 hts 1 rfl) (ht_at2 hts 2 rfl) (ht_at2 hts 3 rfl) (ht_at2 hts 4 rfl) hK hT hG hS hg8 hg11 shc_26 shc_78 rfl rfl (by decide) (by decide) (by decide) (by decide) (by decide) (fun _ _ h9 => by obtain ⟨x9, e9, _⟩ := h9; exact ⟨x9, e9, rfl⟩) (fun _ _ _ h9 => h9) (Nat.le_of_ble_eq_true rfl) (Nat.le_of_ble_eq_true rfl) dX2_copyFrom_27 (fun H locs hT oq hS => ?_)
  have hF := hF.ast hg11 skc_78 oq (by decide)
  have m15 := m2.kept (oq _ (gne hr_la hg11 (by decide)))
  refine lv_aload_n hx hb dX2_copyFrom_30 rfl (lv_at hl 1 rfl) ?_
  refine tw_get hx hb hts bF2_X2 hown hK hT hr_p0 shc_5 rfl 2 (by decide) (ht_at2 hts 6 rfl) (fun _ h9 => h9) dX2_copyFrom_31 (fun v9 m18 h9 => ?_)
  obtain ⟨b19, rfl, hg20⟩ := h9 _ rfl
  refine lv_iconst (v := 0) hx hb dX2_copyFrom_34 (by decide) ?_
  refine lv_aload_n hx hb dX2_copyFrom_35 rfl (lv_at hl 0 rfl) ?_
  refine tw_get hx hb hts bF2_X2 hown hK hT hr_o0 shc_93 rfl 2 (by decide) (ht_at2 hts 6 rfl) (fun _ h9 => h9) dX2_copyFrom_36 (fun v9 m21 h9 => ?_)
  obtain ⟨b22, rfl, hg23⟩ := h9 _ rfl
  refine lv_iconst (v := 0) hx hb dX2_copyFrom_39 (by decide) ?_
  refine lv_bipush (v := 96) hx hb dX2_copyFrom_40 (by decide) ?_
  refine tw_copy (ty := .int) hx hb (hml.trans hl.1.symm) hown (ht_at2 hts 1 rfl) (ht_at2 hts 2 rfl) (ht_at2 hts 3 rfl) (ht_at2 hts 4 rfl) hK hT hG hS hg20 hg23 shc_27 shc_79 rfl rfl (by decide) (by decide) (by decide) (by decide) (by decide) (fun _ _ h9 => by obtain ⟨x9, e9, _⟩ := h9; exact ⟨x9, e9, rfl⟩) (fun _ _ _ h9 => h9) (Nat.le_of_ble_eq_true rfl) (Nat.le_of_ble_eq_true rfl) dX2_copyFrom_42 (fun H locs hT oq hS => ?_)
  have hF := hF.ast hg23 skc_79 oq (by decide)
  have m27 := m15.kept (oq _ (gne hr_la hg23 (by decide)))
  refine lv_aload_n hx hb dX2_copyFrom_45 rfl (lv_at hl 1 rfl) ?_
  refine tw_get hx hb hts bF2_X2 hown hK hT hr_p0 shc_5 rfl 3 (by decide) (ht_at2 hts 7 rfl) (fun _ h9 => h9) dX2_copyFrom_46 (fun v9 m32 h9 => ?_)
  obtain ⟨b33, rfl, hg34⟩ := h9 _ rfl
  refine lv_iconst (v := 0) hx hb dX2_copyFrom_49 (by decide) ?_
  refine lv_aload_n hx hb dX2_copyFrom_50 rfl (lv_at hl 0 rfl) ?_
  refine tw_get hx hb hts bF2_X2 hown hK hT hr_o0 shc_93 rfl 3 (by decide) (ht_at2 hts 7 rfl) (fun _ h9 => h9) dX2_copyFrom_51 (fun v9 m35 h9 => ?_)
  obtain ⟨b36, rfl, hg37⟩ := h9 _ rfl
  refine lv_iconst (v := 0) hx hb dX2_copyFrom_54 (by decide) ?_
  refine lv_bipush (v := 96) hx hb dX2_copyFrom_55 (by decide) ?_
  refine tw_copy (ty := .int) hx hb (hml.trans hl.1.symm) hown (ht_at2 hts 1 rfl) (ht_at2 hts 2 rfl) (ht_at2 hts 3 rfl) (ht_at2 hts 4 rfl) hK hT hG hS hg34 hg37 shc_28 shc_80 rfl rfl (by decide) (by decide) (by decide) (by decide) (by decide) (fun _ _ h9 => by obtain ⟨x9, e9, _⟩ := h9; exact ⟨x9, e9, rfl⟩) (fun _ _ _ h9 => h9) (Nat.le_of_ble_eq_true rfl) (Nat.le_of_ble_eq_true rfl) dX2_copyFrom_57 (fun H locs hT oq hS => ?_)
  have hF := hF.ast hg37 skc_80 oq (by decide)
  have m41 := m27.kept (oq _ (gne hr_la hg37 (by decide)))
  refine lv_aload_n hx hb dX2_copyFrom_60 rfl (lv_at hl 1 rfl) ?_
  refine tw_get hx hb hts bF2_X2 hown hK hT hr_p0 shc_5 rfl 4 (by decide) (ht_at2 hts 8 rfl) (fun _ h9 => h9) dX2_copyFrom_61 (fun v9 m48 h9 => ?_)
  obtain ⟨b49, rfl, hg50⟩ := h9 _ rfl
  refine lv_iconst (v := 0) hx hb dX2_copyFrom_64 (by decide) ?_
  refine lv_aload_n hx hb dX2_copyFrom_65 rfl (lv_at hl 0 rfl) ?_
  refine tw_get hx hb hts bF2_X2 hown hK hT hr_o0 shc_93 rfl 4 (by decide) (ht_at2 hts 8 rfl) (fun _ h9 => h9) dX2_copyFrom_66 (fun v9 m51 h9 => ?_)
  obtain ⟨b52, rfl, hg53⟩ := h9 _ rfl
  refine lv_iconst (v := 0) hx hb dX2_copyFrom_69 (by decide) ?_
  refine lv_bipush (v := 96) hx hb dX2_copyFrom_70 (by decide) ?_
  refine tw_copy (ty := .int) hx hb (hml.trans hl.1.symm) hown (ht_at2 hts 1 rfl) (ht_at2 hts 2 rfl) (ht_at2 hts 3 rfl) (ht_at2 hts 4 rfl) hK hT hG hS hg50 hg53 shc_29 shc_81 rfl rfl (by decide) (by decide) (by decide) (by decide) (by decide) (fun _ _ h9 => by obtain ⟨x9, e9, _⟩ := h9; exact ⟨x9, e9, rfl⟩) (fun _ _ _ h9 => h9) (Nat.le_of_ble_eq_true rfl) (Nat.le_of_ble_eq_true rfl) dX2_copyFrom_72 (fun H locs hT oq hS => ?_)
  have hF := hF.ast hg53 skc_81 oq (by decide)
  have m57 := m41.kept (oq _ (gne hr_la hg53 (by decide)))
  refine lv_aload_n hx hb dX2_copyFrom_75 rfl (lv_at hl 1 rfl) ?_
  refine tw_get hx hb hts bF2_X2 hown hK hT hr_p0 shc_5 rfl 5 (by decide) (ht_at2 hts 9 rfl) (fun _ h9 => h9) dX2_copyFrom_76 (fun v9 m66 h9 => ?_)
  obtain ⟨b67, rfl, hg68⟩ := h9 _ rfl
  refine lv_iconst (v := 0) hx hb dX2_copyFrom_79 (by decide) ?_
  refine lv_aload_n hx hb dX2_copyFrom_80 rfl (lv_at hl 0 rfl) ?_
  refine tw_get hx hb hts bF2_X2 hown hK hT hr_o0 shc_93 rfl 5 (by decide) (ht_at2 hts 9 rfl) (fun _ h9 => h9) dX2_copyFrom_81 (fun v9 m69 h9 => ?_)
  obtain ⟨b70, rfl, hg71⟩ := h9 _ rfl
  refine lv_iconst (v := 0) hx hb dX2_copyFrom_84 (by decide) ?_
  refine lv_bipush (v := 96) hx hb dX2_copyFrom_85 (by decide) ?_
  refine tw_copy (ty := .int) hx hb (hml.trans hl.1.symm) hown (ht_at2 hts 1 rfl) (ht_at2 hts 2 rfl) (ht_at2 hts 3 rfl) (ht_at2 hts 4 rfl) hK hT hG hS hg68 hg71 shc_30 shc_82 rfl rfl (by decide) (by decide) (by decide) (by decide) (by decide) (fun _ _ h9 => by obtain ⟨x9, e9, _⟩ := h9; exact ⟨x9, e9, rfl⟩) (fun _ _ _ h9 => h9) (Nat.le_of_ble_eq_true rfl) (Nat.le_of_ble_eq_true rfl) dX2_copyFrom_87 (fun H locs hT oq hS => ?_)
  have hF := hF.ast hg71 skc_82 oq (by decide)
  have m75 := m57.kept (oq _ (gne hr_la hg71 (by decide)))
  refine lv_aload_n hx hb dX2_copyFrom_90 rfl (lv_at hl 1 rfl) ?_
  refine tw_get hx hb hts bF2_X2 hown hK hT hr_p0 shc_5 rfl 6 (by decide) (ht_at2 hts 10 rfl) (fun _ h9 => h9) dX2_copyFrom_91 (fun v9 m86 h9 => ?_)
  obtain ⟨b87, rfl, hg88⟩ := h9 _ rfl
  refine lv_iconst (v := 0) hx hb dX2_copyFrom_94 (by decide) ?_
  refine lv_aload_n hx hb dX2_copyFrom_95 rfl (lv_at hl 0 rfl) ?_
  refine tw_get hx hb hts bF2_X2 hown hK hT hr_o0 shc_93 rfl 6 (by decide) (ht_at2 hts 10 rfl) (fun _ h9 => h9) dX2_copyFrom_96 (fun v9 m89 h9 => ?_)
  obtain ⟨b90, rfl, hg91⟩ := h9 _ rfl
  refine lv_iconst (v := 0) hx hb dX2_copyFrom_99 (by decide) ?_
  refine lv_bipush (v := 96) hx hb dX2_copyFrom_100 (by decide) ?_
  refine tw_copy (ty := .int) hx hb (hml.trans hl.1.symm) hown (ht_at2 hts 1 rfl) (ht_at2 hts 2 rfl) (ht_at2 hts 3 rfl) (ht_at2 hts 4 rfl) hK hT hG hS hg88 hg91 shc_31 shc_83 rfl rfl (by decide) (by decide) (by decide) (by decide) (by decide) (fun _ _ h9 => by obtain ⟨x9, e9, _⟩ := h9; exact ⟨x9, e9, rfl⟩) (fun _ _ _ h9 => h9) (Nat.le_of_ble_eq_true rfl) (Nat.le_of_ble_eq_true rfl) dX2_copyFrom_102 (fun H locs hT oq hS => ?_)
  have hF := hF.ast hg91 skc_83 oq (by decide)
  have m95 := m75.kept (oq _ (gne hr_la hg91 (by decide)))
  refine lv_aload_n hx hb dX2_copyFrom_105 rfl (lv_at hl 1 rfl) ?_
  refine tw_get hx hb hts bF2_X2 hown hK hT hr_p0 shc_5 rfl 7 (by decide) (ht_at2 hts 11 rfl) (fun _ h9 => h9) dX2_copyFrom_106 (fun v9 m108 h9 => ?_)
  obtain ⟨b109, rfl, hg110⟩ := h9 _ rfl
  refine lv_iconst (v := 0) hx hb dX2_copyFrom_109 (by decide) ?_
  refine lv_aload_n hx hb dX2_copyFrom_110 rfl (lv_at hl 0 rfl) ?_
  refine tw_get hx hb hts bF2_X2 hown hK hT hr_o0 shc_93 rfl 7 (by decide) (ht_at2 hts 11 rfl) (fun _ h9 => h9) dX2_copyFrom_111 (fun v9 m111 h9 => ?_)
  obtain ⟨b112, rfl, hg113⟩ := h9 _ rfl
  refine lv_iconst (v := 0) hx hb dX2_copyFrom_114 (by decide) ?_
  refine lv_bipush (v := 96) hx hb dX2_copyFrom_115 (by decide) ?_
  refine tw_copy (ty := .int) hx hb (hml.trans hl.1.symm) hown (ht_at2 hts 1 rfl) (ht_at2 hts 2 rfl) (ht_at2 hts 3 rfl) (ht_at2 hts 4 rfl) hK hT hG hS hg110 hg113 shc_32 shc_84 rfl rfl (by decide) (by decide) (by decide) (by decide) (by decide) (fun _ _ h9 => by obtain ⟨x9, e9, _⟩ := h9; exact ⟨x9, e9, rfl⟩) (fun _ _ _ h9 => h9) (Nat.le_of_ble_eq_true rfl) (Nat.le_of_ble_eq_true rfl) dX2_copyFrom_117 (fun H locs hT oq hS => ?_)
  have hF := hF.ast hg113 skc_84 oq (by decide)
  have m117 := m95.kept (oq _ (gne hr_la hg113 (by decide)))
  refine lv_aload_n hx hb dX2_copyFrom_120 rfl (lv_at hl 0 rfl) ?_
  refine lv_aload_n hx hb dX2_copyFrom_121 rfl (lv_at hl 1 rfl) ?_
  refine tw_get hx hb hts bF2_X2 hown hK hT hr_p0 shc_5 rfl 11 (by decide) (ht_at2 hts 12 rfl) (fun _ h9 => h9) dX2_copyFrom_122 (fun v9 m132 h9 => ?_)
  obtain ⟨x133, rfl, gx133, kx133⟩ := h9 _ rfl
  refine tw_put (v := .int x133) (ty := .int) hx hb hts bF2_X2 tyX2 tyX2_ok nmX2 hown hK hT hG hS hr_o0 shc_93 rfl 11 (by decide) (ht_at2 hts 12 rfl) (fun _ h9 => h9) rfl (by decide +kernel) rfl rfl (gl_at rfl (gi_all _)) dX2_copyFrom_125 (fun H locs hT oq m134 oj hS => ?_)
  have hF := hF.put hr_o0 skc_93 oq oj (by decide)
  have m138 := m117.kept (oq _ (gne hr_la hr_o0 (by decide)))
  refine lv_aload_n hx hb dX2_copyFrom_128 rfl (lv_at hl 0 rfl) ?_
  refine lv_aload_n hx hb dX2_copyFrom_129 rfl (lv_at hl 1 rfl) ?_
  refine tw_get hx hb hts bF2_X2 hown hK hT hr_p0 shc_5 rfl 12 (by decide) (ht_at2 hts 13 rfl) (fun _ h9 => h9) dX2_copyFrom_130 (fun v9 m154 h9 => ?_)
  obtain ⟨x155, rfl, gx155, kx155⟩ := h9 _ rfl
  refine tw_put (v := .int x155) (ty := .int) hx hb hts bF2_X2 tyX2 tyX2_ok nmX2 hown hK hT hG hS hr_o0 shc_93 rfl 12 (by decide) (ht_at2 hts 13 rfl) (fun _ h9 => h9) rfl (by decide +kernel) rfl rfl (gl_at rfl (gi_all _)) dX2_copyFrom_133 (fun H locs hT oq m156 oj hS => ?_)
  have hF := hF.put hr_o0 skc_93 oq oj (by decide)
  have m160 := m138.kept (oq _ (gne hr_la hr_o0 (by decide)))
  refine lv_aload_n hx hb dX2_copyFrom_136 rfl (lv_at hl 0 rfl) ?_
  refine lv_aload_n hx hb dX2_copyFrom_137 rfl (lv_at hl 1 rfl) ?_
  refine tw_get hx hb hts bF2_X2 hown hK hT hr_p0 shc_5 rfl 13 (by decide) (ht_at2 hts 14 rfl) (fun _ h9 => h9) dX2_copyFrom_138 (fun v9 m178 h9 => ?_)
  obtain ⟨x179, rfl, gx179, kx179⟩ := h9 _ rfl
  refine tw_put (v := .int x179) (ty := .int) hx hb hts bF2_X2 tyX2 tyX2_ok nmX2 hown hK hT hG hS hr_o0 shc_93 rfl 13 (by decide) (ht_at2 hts 14 rfl) (fun _ h9 => h9) rfl (by decide +kernel) rfl rfl (gl_at rfl (gi_all _)) dX2_copyFrom_141 (fun H locs hT oq m180 oj hS => ?_)
  have hF := hF.put hr_o0 skc_93 oq oj (by decide)
  have m184 := m160.kept (oq _ (gne hr_la hr_o0 (by decide)))
  refine lv_aload_n hx hb dX2_copyFrom_144 rfl (lv_at hl 0 rfl) ?_
  refine lv_aload_n hx hb dX2_copyFrom_145 rfl (lv_at hl 1 rfl) ?_
  refine tw_get hx hb hts bF2_X2 hown hK hT hr_p0 shc_5 rfl 14 (by decide) (ht_at2 hts 15 rfl) (fun _ h9 => h9) dX2_copyFrom_146 (fun v9 m204 h9 => ?_)
  obtain ⟨x205, rfl, gx205, kx205⟩ := h9 _ rfl
  refine tw_put (v := .int x205) (ty := .int) hx hb hts bF2_X2 tyX2 tyX2_ok nmX2 hown hK hT hG hS hr_o0 shc_93 rfl 14 (by decide) (ht_at2 hts 15 rfl) (fun _ h9 => h9) rfl (by decide +kernel) rfl rfl (gl_at rfl (gi_all _)) dX2_copyFrom_149 (fun H locs hT oq m206 oj hS => ?_)
  have hF := hF.put hr_o0 skc_93 oq oj (by decide)
  have m210 := m184.kept (oq _ (gne hr_la hr_o0 (by decide)))
  exact W.vret hx hb hr (fun t ht hW => ⟨⟨(), rfl, (by exact trivial), by (try dsimp only); rw [ht]; exact ⟨hT, hF, m210⟩⟩, hS.F ht⟩) hS.2.2 dX2_copyFrom_152
def w_c_copyL_iC : List Cond := .code yX3_copyFrom cX3_copyFrom 3 none :: (HAppend.hAppend (α := List Cond) (β := List Cond) (γ := List Cond) [.fieldLink RX3 12 "SeaLand$Lake" "sky" "LSeaLand$Sky;", .code yX8_copyFrom cX8_copyFrom 2 none, .fieldLink RX8 9 "SeaLand$Sky" "tides" "[I", .methodLink RX8 63 arraycopyName, .native arraycopyName, .static arraycopyName, .initialized "java/lang/System", .fieldLink RX8 15 "SeaLand$Sky" "stormFrom" "[I", .fieldLink RX8 18 "SeaLand$Sky" "stormTo" "[I", .fieldLink RX8 21 "SeaLand$Sky" "stormMore" "[I", .fieldLink RX8 27 "SeaLand$Sky" "wind" "LSeaLand$Tellings;", .code yX9_copyFrom cX9_copyFrom 2 none, .fieldLink RX9 9 "SeaLand$Tellings" "hours" "[I", .methodLink RX9 23 arraycopyName, .fieldLink RX9 15 "SeaLand$Tellings" "numbers" "[I", .fieldLink RX9 18 "SeaLand$Tellings" "told" "I", .methodLink RX8 69 yX9_copyFrom, .instanceMethod yX9_copyFrom, .selects RX9 yX9_copyFrom yX9_copyFrom, .initialized RX9, .fieldLink RX8 31 "SeaLand$Sky" "rain" "LSeaLand$Tellings;", .fieldLink RX8 34 "SeaLand$Sky" "storms" "I", .methodLink RX3 175 yX8_copyFrom, .instanceMethod yX8_copyFrom, .selects RX8 yX8_copyFrom yX8_copyFrom, .initialized RX8, .fieldLink RX3 21 "SeaLand$Lake" "ground" "LSeaLand$Ground;", .code yX2_copyFrom cX2_copyFrom 2 none, .fieldLink RX2 9 "SeaLand$Ground" "isLand" "[Z", .methodLink RX2 95 arraycopyName, .fieldLink RX2 15 "SeaLand$Ground" "height" "[I", .fieldLink RX2 19 "SeaLand$Ground" "soil" "[I", .fieldLink RX2 22 "SeaLand$Ground" "ditch" "[I", .fieldLink RX2 25 "SeaLand$Ground" "water" "[I", .fieldLink RX2 28 "SeaLand$Ground" "salt" "[I", .fieldLink RX2 31 "SeaLand$Ground" "dry" "[I", .fieldLink RX2 34 "SeaLand$Ground" "wet" "[I", .fieldLink RX2 54 "SeaLand$Ground" "rained" "I", .fieldLink RX2 57 "SeaLand$Ground" "cameIn" "I", .fieldLink RX2 64 "SeaLand$Ground" "wentOut" "I", .fieldLink RX2 50 "SeaLand$Ground" "toldMore" "I", .methodLink RX3 179 yX2_copyFrom, .instanceMethod yX2_copyFrom, .selects RX2 yX2_copyFrom yX2_copyFrom, .initialized RX2, .fieldLink RX3 47 "SeaLand$Lake" "built" "I", .fieldLink RX3 32 "SeaLand$Lake" "hour" "I", .fieldLink RX3 27 "SeaLand$Lake" "works" "[LSeaLand$Work;", .code yX10_copyFrom cX10_copyFrom 2 none, .fieldLink RX10 9 "SeaLand$Work" "thick" "[I", .methodLink RX10 60 arraycopyName, .fieldLink RX10 15 "SeaLand$Work" "clay" "[I", .fieldLink RX10 18 "SeaLand$Work" "kind" "I", .fieldLink RX10 22 "SeaLand$Work" "square" "I", .fieldLink RX10 25 "SeaLand$Work" "to" "I", .fieldLink RX10 28 "SeaLand$Work" "size" "I", .fieldLink RX10 31 "SeaLand$Work" "width" "I", .fieldLink RX10 34 "SeaLand$Work" "layers" "I", .fieldLink RX10 37 "SeaLand$Work" "coal" "I", .fieldLink RX10 40 "SeaLand$Work" "on" "Z", .fieldLink RX10 44 "SeaLand$Work" "latest" "I", .fieldLink RX10 47 "SeaLand$Work" "total" "I", .methodLink RX3 182 yX10_copyFrom, .instanceMethod yX10_copyFrom, .selects RX10 yX10_copyFrom yX10_copyFrom, .initialized RX10] bs2)
set_option maxHeartbeats 4000000 in
set_option maxRecDepth 100000 in
theorem c_copyL_iC (l : Launch) (dC : Nat → ClassId) (dI : Nat → Nat → Nat) (kA : Nat → ClassId) (adK adV : Nat → Nat) (G : gT) (H0 : Heap) (nC nS : Int) (o0 : Nat) (p0 : Nat) (oh : Int32) (gr : Nat) (go : Nat) (la : Nat) (lb : Nat) (VB : Nat → Int32)  (hT : gH (dC, dI) kA (SHc nC nS) G H0) (hr_o0 : G o0 = some 90) (hr_p0 : G p0 = some 6) (hm_oh : el H0 p0 (dI 6 4) = some (.int oh)) (hm_gr : el H0 o0 (dI 6 1) = some (.ref gr)) (hr_gr : G gr = some 93) (hm_go : el H0 p0 (dI 6 1) = some (.ref go)) (hr_go : G go = some 5) (hm_la : el H0 gr (dI 5 0) = some (.ref la)) (hr_la : G la = some 77) (hm_lb : el H0 go (dI 5 0) = some (.ref lb)) (hr_lb : G lb = some 25) (hq0 : 0 ≤ oh.toInt ∧ oh.toInt ≤ 40000) (hc_VB : ct H0 lb 96 VB) (hgC : 0 ≤ nC ∧ nC ≤ 40) (hgS : 0 ≤ nS ∧ nS ≤ 60) : Met l yX3_copyFrom w_c_copyL_iC ({ frames := 4, cells := 0, slots := 0, locals := 102 }) (va_Pc [.ref o0, .ref p0] (fun U => U.heap = H0 ∧ va_K (dC, dI) vwCl (tyl kA) U ∧ EVC adK adV (gA G H0.size) U U.heap)) (va_Qv (fun (u : Int32) => (u.toInt = oh.toInt)) (fun (h1 : Int32) (t : State) => gH (dC, dI) kA (SHc nC nS) G t.heap ∧ gF (dC, dI) SKc G ([(71, 0), (72, 0), (73, 0), (74, 0), (75, 0), (76, 0), (77, 0), (78, 0), (79, 0), (80, 0), (81, 0), (82, 0), (83, 0), (84, 0), (88, 0), (89, 0), (90, 3), (90, 4), (91, 6), (92, 2), (93, 11), (93, 12), (93, 13), (93, 14), (94, 2), (94, 3), (94, 4), (94, 5), (94, 6), (94, 7), (94, 8), (94, 9), (94, 10), (94, 11)] : List (Nat × Nat)) H0 t.heap ∧ el t.heap o0 (dI 6 4) = some (.int h1) ∧ ct t.heap la 96 VB) (gA G H0.size)) 0 0 (gA G H0.size) := by
  refine Met.ofW (cc := cX3_copyFrom) (maxL := 3) (ret := none) (by decide) rfl ?_
  intro p e s m args below meth c s₁ B hml hv
  obtain ⟨rfl, hH0, hK, hE⟩ := hv
  have hx := B.exec
  have hb := B.bytes
  have hr := B.returns
  have hts := atoms_spec (ws := w_c_copyL_iC) B.pre
  have hown : s.vm.findClass RX3 = some m.cls := findClass_of_methodNamed B.named
  have hlocks := B.notSynchronized
  subst hH0
  generalize hAe : gA G s.heap.size = A at hE ⊢
  have hA : ∀ q : Nat, s.heap.size ≤ q → A q := fun q h => by rw [← hAe]; exact Or.inr h
  have hG := gA_of hAe
  have hS : va_S A s.heap s.heap [] := va_S.rf
  have hF : gF (dC, dI) SKc G ([(71, 0), (72, 0), (73, 0), (74, 0), (75, 0), (76, 0), (77, 0), (78, 0), (79, 0), (80, 0), (81, 0), (82, 0), (83, 0), (84, 0), (88, 0), (89, 0), (90, 3), (90, 4), (91, 6), (92, 2), (93, 11), (93, 12), (93, 13), (93, 14), (94, 2), (94, 3), (94, 4), (94, 5), (94, 6), (94, 7), (94, 8), (94, 9), (94, 10), (94, 11)] : List (Nat × Nat)) s.heap s.heap := gF.rf
  have hl := lv_entry ([.ref o0, .ref p0]) (n := 3) (Nat.le_of_ble_eq_true rfl)
  rw [lg_entry_eq]
  generalize (lg_sl ([.ref o0, .ref p0]) ++ List.replicate (3 - (lg_sl ([.ref o0, .ref p0])).length) Slot.unset).toArray = ls at hl ⊢
  have hl : lv_has ls 3 [(0, .ref o0), (1, .ref p0)] := hl
  refine lv_aload_n hx hb dX3_copyFrom_0 rfl (lv_at hl 0 rfl) ?_
  refine tw_get hx hb hts bF2_X3 hown hK hT hr_o0 shc_90 rfl 0 (by decide) (ht_at2 hts 0 rfl) (fun _ h9 => h9) dX3_copyFrom_1 (fun v9 m1 h9 => ?_)
  obtain ⟨b2, rfl, hg3⟩ := h9 _ rfl
  refine lv_aload_n hx hb dX3_copyFrom_4 rfl (lv_at hl 1 rfl) ?_
  refine tw_get hx hb hts bF2_X3 hown hK hT hr_p0 shc_6 rfl 0 (by decide) (ht_at2 hts 0 rfl) (fun _ h9 => h9) dX3_copyFrom_5 (fun v9 m4 h9 => ?_)
  obtain ⟨b5, rfl, hg6⟩ := h9 _ rfl
  have hFc := gA_free hG hA hS
  refine va_callv (va_runV (As := [.ref b5]) (rest := []) ⟨hx, hb, hml, hown, hts⟩ (c_copyS_i l dC dI kA adK adV G s.heap nC nS b2 b5 hT hg3 hg6 (by omega) (by omega)) (cwV 1 hts (goodIn_app (goodIn_r _ [23, 24, 25, 26] rfl (by decide +kernel)) (goodIn_ca (goodIn_r _ [2, 3, 4, 5, 6, 7, 8, 9, 10, 11, 12, 13, 14, 15, 16, 17, 18, 19, 20, 21, 22] rfl (by decide +kernel)) (bs2_in _ _))) rfl rfl rfl (by decide +kernel) ⟨(Nat.le_of_ble_eq_true rfl), (Nat.le_of_ble_eq_true rfl)⟩) ⟨fun a U g mk q => by obtain ⟨q0, q1, qK, qE⟩ := q; exact ⟨q0, q1, va_K.moved (u := U) (U := U.calling g mk a) (Vm.Alike.refl U.vm) qK, EVC.blind g mk a qE⟩, gH_rc hK hT hg3 shc_91 rfl, fun U hU hW => ⟨rfl, hU, va_K.moved hW.alike hK, hE.call hS hFc hU hW⟩⟩ rfl rfl hl.1 rfl (lv_room (Nat.le_of_ble_eq_true rfl)) dX3_copyFrom_8 ⟨(Nat.le_of_ble_eq_true rfl), (Nat.le_of_ble_eq_true rfl)⟩) hS (fun q _ h => hFc q h) hFc (fun u t H locs ht hvm hw8 hB _ _ hS => ?_)
  obtain ⟨hT, hF1⟩ := hB
  rw [ht] at hT hF1
  have m9 := (hF1.fld hr_p0 skc_6 (k := 4) (by decide) (by decide)).trans hm_oh
  have m10 := (hF1.fld hr_o0 skc_90 (k := 1) (by decide) (by decide)).trans hm_gr
  have m11 := (hF1.fld hr_p0 skc_6 (k := 1) (by decide) (by decide)).trans hm_go
  have m12 := (hF1.fld hr_gr skc_93 (k := 0) (by decide) (by decide)).trans hm_la
  have m13 := (hF1.fld hr_go skc_5 (k := 0) (by decide) (by decide)).trans hm_lb
  have m14 := hc_VB.kept (hF1.arr hr_lb skc_25 (by decide))
  have m15 := (hF1.fld hr_o0 skc_90 (k := 0) (by decide) (by decide)).trans m1
  have m16 := (hF1.fld hr_p0 skc_6 (k := 0) (by decide) (by decide)).trans m4
  have hF := hF.more hF1 (by decide)
  try dsimp only at hw8
  refine lv_aload_n hx hb dX3_copyFrom_11 rfl (lv_at hl 0 rfl) ?_
  refine tw_getM (v := .ref gr) hx hb hts bF2_X3 hown hK hT hr_o0 shc_90 rfl 1 (by decide) (ht_at2 hts 26 rfl) (fun _ h9 => h9) m10 dX3_copyFrom_12 ?_
  refine lv_aload_n hx hb dX3_copyFrom_15 rfl (lv_at hl 1 rfl) ?_
  refine tw_getM (v := .ref go) hx hb hts bF2_X3 hown hK hT hr_p0 shc_6 rfl 1 (by decide) (ht_at2 hts 26 rfl) (fun _ h9 => h9) m11 dX3_copyFrom_16 ?_
  have hFc := gA_free hG hA hS
  refine va_callv (va_runV (As := [.ref go]) (rest := []) ⟨hx, hb, hml, hown, hts⟩ (c_copyG_iC l dC dI kA adK adV G H nC nS gr go la lb VB hT hr_gr hr_go m12 hr_la m13 hr_lb m14 (by omega) (by omega)) (cwV 1 hts (goodIn_app (goodIn_r _ [42, 43, 44, 45] rfl (by decide +kernel)) (goodIn_ca (goodIn_r _ [28, 29, 30, 5, 6, 7, 31, 32, 33, 34, 35, 36, 37, 38, 39, 40, 41] rfl (by decide +kernel)) (bs2_in _ _))) rfl rfl rfl (by decide +kernel) ⟨(Nat.le_of_ble_eq_true rfl), (Nat.le_of_ble_eq_true rfl)⟩) ⟨fun a U g mk q => by obtain ⟨q0, q1, qK, qE⟩ := q; exact ⟨q0, q1, va_K.moved (u := U) (U := U.calling g mk a) (Vm.Alike.refl U.vm) qK, EVC.blind g mk a qE⟩, gH_rc hK hT hr_gr shc_93 rfl, fun U hU hW => ⟨rfl, hU, va_K.moved hW.alike hK, hE.call hS hFc hU hW⟩⟩ rfl rfl hl.1 rfl (lv_room (Nat.le_of_ble_eq_true rfl)) dX3_copyFrom_19 ⟨(Nat.le_of_ble_eq_true rfl), (Nat.le_of_ble_eq_true rfl)⟩) hS (fun q _ h => hFc q h) hFc (fun u t H locs ht hvm hw18 hB _ _ hS => ?_)
  obtain ⟨hT, hF1, m19⟩ := hB
  rw [ht] at hT hF1 m19
  have m20 := (hF1.fld hr_p0 skc_6 (k := 4) (by decide) (by decide)).trans m9
  have m21 := (hF1.fld hr_o0 skc_90 (k := 1) (by decide) (by decide)).trans m10
  have m22 := (hF1.fld hr_p0 skc_6 (k := 1) (by decide) (by decide)).trans m11
  have m23 := (hF1.fld hr_gr skc_93 (k := 0) (by decide) (by decide)).trans m12
  have m24 := (hF1.fld hr_go skc_5 (k := 0) (by decide) (by decide)).trans m13
  have m25 := m14.kept (hF1.arr hr_lb skc_25 (by decide))
  have m26 := (hF1.fld hr_o0 skc_90 (k := 0) (by decide) (by decide)).trans m15
  have m27 := (hF1.fld hr_p0 skc_6 (k := 0) (by decide) (by decide)).trans m16
  have hF := hF.more hF1 (by decide)
  try dsimp only at hw18
  refine lv_iconst (v := 0) hx hb dX3_copyFrom_22 (by decide) ?_
  refine lv_istore_n (lv' := [(2, .int 0), (0, .ref o0), (1, .ref p0)]) hx hb dX3_copyFrom_23 rfl hl (by decide) rfl (fun ls hl => ?_)
  have jn145 : ∀ (z131 : Int32), ∀ (z142 : Int32), ((0 ≤ z131.toInt ∧ z131.toInt ≤ 30) ∧ (0 ≤ z142.toInt ∧ z142.toInt ≤ 30)) → ∀ (H : Heap) (locs : List Loc), gH (dC, dI) kA (SHc nC nS) G H → gF (dC, dI) SKc G ([(71, 0), (72, 0), (73, 0), (74, 0), (75, 0), (76, 0), (77, 0), (78, 0), (79, 0), (80, 0), (81, 0), (82, 0), (83, 0), (84, 0), (88, 0), (89, 0), (90, 3), (90, 4), (91, 6), (92, 2), (93, 11), (93, 12), (93, 13), (93, 14), (94, 2), (94, 3), (94, 4), (94, 5), (94, 6), (94, 7), (94, 8), (94, 9), (94, 10), (94, 11)] : List (Nat × Nat)) s.heap H → va_S A s.heap H locs → ct H lb 96 VB → ct H la 96 VB → el H p0 (dI 6 4) = some (.int oh) → el H o0 (dI 6 1) = some (.ref gr) → el H p0 (dI 6 1) = some (.ref go) → el H gr (dI 5 0) = some (.ref la) → el H go (dI 5 0) = some (.ref lb) → el H o0 (dI 6 0) = some (.ref b2) → el H p0 (dI 6 0) = some (.ref b5) → el H p0 (dI 6 3) = some (.int z142) → ∀ ls : Array Slot, lv_has ls 3 [(2, .int z131), (0, .ref o0), (1, .ref p0)] → W p l e (headSpec w_c_copyL_iC ({ frames := 4, cells := 0, slots := 0, locals := 102 })).room s m #[.ref o0, .ref p0] below meth c H locs 0 0 (MQ below (va_Qv (fun (u : Int32) => (u.toInt = oh.toInt)) (fun (h1 : Int32) (t : State) => gH (dC, dI) kA (SHc nC nS) G t.heap ∧ gF (dC, dI) SKc G ([(71, 0), (72, 0), (73, 0), (74, 0), (75, 0), (76, 0), (77, 0), (78, 0), (79, 0), (80, 0), (81, 0), (82, 0), (83, 0), (84, 0), (88, 0), (89, 0), (90, 3), (90, 4), (91, 6), (92, 2), (93, 11), (93, 12), (93, 13), (93, 14), (94, 2), (94, 3), (94, 4), (94, 5), (94, 6), (94, 7), (94, 8), (94, 9), (94, 10), (94, 11)] : List (Nat × Nat)) s.heap t.heap ∧ el t.heap o0 (dI 6 4) = some (.int h1) ∧ ct t.heap la 96 VB) A) #[.ref o0, .ref p0] s 0 0 A) (F0 m 53 ls []) := by
    intro z131 z142 ⟨h132, h143⟩ H locs hT hF hS m133 m134 m135 m136 m137 m138 m139 m140 m141 m144 ls hl
    refine lv_aload_n hx hb dX3_copyFrom_53 rfl (lv_at hl 1 rfl) ?_
    refine lv_aload_n hx hb dX3_copyFrom_54 rfl (lv_at hl 2 rfl) ?_
    refine tw_getM (v := .int z142) hx hb hts bF2_X3 hown hK hT hr_p0 shc_6 rfl 3 (by decide) (ht_at2 hts 45 rfl) (fun _ h9 => h9) m144 dX3_copyFrom_55 ?_
    refine tw_put (v := .int z142) (ty := .int) hx hb hts bF2_X3 tyX3 tyX3_ok nmX3 hown hK hT hG hS hr_o0 shc_90 rfl 3 (by decide) (ht_at2 hts 45 rfl) (fun _ h9 => h9) rfl (by decide +kernel) rfl rfl (gl_at rfl (gi_of (show z142.toInt = z142.toInt from rfl) (by omega) (by omega))) dX3_copyFrom_58 (fun H locs hT oq m146 oj hS => ?_)
    have hF := hF.put hr_o0 skc_90 oq oj (by decide)
    have m148 := m134.kept (oq _ (gne hr_la hr_o0 (by decide)))
    have m149 := (el_kept (oq _ (gne hr_p0 hr_o0 (by decide)))).trans m135
    refine lv_aload_n hx hb dX3_copyFrom_61 rfl (lv_at hl 1 rfl) ?_
    refine lv_aload_n hx hb dX3_copyFrom_62 rfl (lv_at hl 2 rfl) ?_
    refine tw_getM (v := .int oh) hx hb hts bF2_X3 hown hK hT hr_p0 shc_6 rfl 4 (by decide) (ht_at2 hts 46 rfl) (fun _ h9 => h9) m149 dX3_copyFrom_63 ?_
    refine tw_put (v := .int oh) (ty := .int) hx hb hts bF2_X3 tyX3 tyX3_ok nmX3 hown hK hT hG hS hr_o0 shc_90 rfl 4 (by decide) (ht_at2 hts 46 rfl) (fun _ h9 => h9) rfl (by decide +kernel) rfl rfl (gl_at rfl (gi_of (show oh.toInt = oh.toInt from rfl) (by omega) (by omega))) dX3_copyFrom_66 (fun H locs hT oq m157 oj hS => ?_)
    have hF := hF.put hr_o0 skc_90 oq oj (by decide)
    have m159 := m148.kept (oq _ (gne hr_la hr_o0 (by decide)))
    exact W.vret hx hb hr (fun t ht hW => ⟨⟨oh, rfl, (by exact (by omega)), by (try dsimp only); rw [ht]; exact ⟨hT, hF, m157, m159⟩⟩, hS.F ht⟩) hS.2.2 dX3_copyFrom_69
  have key169 : ∀ (n169 i28 : Nat), i28 + n169 = 30 → 0 ≤ i28 → ∀ (H : Heap) (locs : List Loc), gH (dC, dI) kA (SHc nC nS) G H → gF (dC, dI) SKc G ([(71, 0), (72, 0), (73, 0), (74, 0), (75, 0), (76, 0), (77, 0), (78, 0), (79, 0), (80, 0), (81, 0), (82, 0), (83, 0), (84, 0), (88, 0), (89, 0), (90, 3), (90, 4), (91, 6), (92, 2), (93, 11), (93, 12), (93, 13), (93, 14), (94, 2), (94, 3), (94, 4), (94, 5), (94, 6), (94, 7), (94, 8), (94, 9), (94, 10), (94, 11)] : List (Nat × Nat)) s.heap H → va_S A s.heap H locs → ct H lb 96 VB → ct H la 96 VB → el H p0 (dI 6 4) = some (.int oh) → el H o0 (dI 6 1) = some (.ref gr) → el H p0 (dI 6 1) = some (.ref go) → el H gr (dI 5 0) = some (.ref la) → el H go (dI 5 0) = some (.ref lb) → el H o0 (dI 6 0) = some (.ref b2) → el H p0 (dI 6 0) = some (.ref b5) → ∀ ls : Array Slot, lv_has ls 3 [(2, .int (nI i28)), (0, .ref o0), (1, .ref p0)] → W p l e (headSpec w_c_copyL_iC ({ frames := 4, cells := 0, slots := 0, locals := 102 })).room s m #[.ref o0, .ref p0] below meth c H locs 0 0 (MQ below (va_Qv (fun (u : Int32) => (u.toInt = oh.toInt)) (fun (h1 : Int32) (t : State) => gH (dC, dI) kA (SHc nC nS) G t.heap ∧ gF (dC, dI) SKc G ([(71, 0), (72, 0), (73, 0), (74, 0), (75, 0), (76, 0), (77, 0), (78, 0), (79, 0), (80, 0), (81, 0), (82, 0), (83, 0), (84, 0), (88, 0), (89, 0), (90, 3), (90, 4), (91, 6), (92, 2), (93, 11), (93, 12), (93, 13), (93, 14), (94, 2), (94, 3), (94, 4), (94, 5), (94, 6), (94, 7), (94, 8), (94, 9), (94, 10), (94, 11)] : List (Nat × Nat)) s.heap t.heap ∧ el t.heap o0 (dI 6 4) = some (.int h1) ∧ ct t.heap la 96 VB) A) #[.ref o0, .ref p0] s 0 0 A) (F0 m 24 ls []) := by
    intro n169
    induction n169 with
    | zero =>
      intro i28 hn169 hlo170  H locs hT hF hS m29 m30 m31 m32 m33 m34 m35 m36 m37 ls hl
      obtain rfl : 30 = i28 := by omega
      refine lv_iload_n hx hb dX3_copyFrom_24 rfl (lv_at hl 0 rfl) ?_
      refine lv_aload_n hx hb dX3_copyFrom_25 rfl (lv_at hl 2 rfl) ?_
      refine tw_get hx hb hts bF2_X3 hown hK hT hr_p0 shc_6 rfl 3 (by decide) (ht_at2 hts 45 rfl) (fun _ h9 => h9) dX3_copyFrom_26 (fun v9 m171 h9 => ?_)
      obtain ⟨x172, rfl, gx172, kx172⟩ := h9 _ rfl
      refine lv_icmp_ge (tgt := 53) hx hb dX3_copyFrom_29 (by decide) (fun c173 => ?_) (fun c173 => (by exfalso; have q9 : ((30 : Nat) : Int) < x172.toInt := ti_nle c173 rfl (nI_toInt (by omega)); omega))
      have t174 : x172.toInt ≤ ((30 : Nat) : Int) := ti_le c173 rfl (nI_toInt (by omega))
      exact jn145 (nI 30) x172 ⟨(rg_t (a := ((30 : Nat) : Int)) (nI_toInt (by omega)) (by omega) (by omega)), (by have q8 := ti_all x172; omega)⟩ _ _ hT hF hS m29 m30 m31 m32 m33 m34 m35 m36 m37 m171 ls (lv_sub hl [0, 1, 2] rfl)
    | succ n169 ih169 =>
      intro i28 hn169 hlo170  H locs hT hF hS m29 m30 m31 m32 m33 m34 m35 m36 m37 ls hl
      have hlt174 : i28 < 30 := by omega
      refine lv_iload_n hx hb dX3_copyFrom_24 rfl (lv_at hl 0 rfl) ?_
      refine lv_aload_n hx hb dX3_copyFrom_25 rfl (lv_at hl 2 rfl) ?_
      refine tw_get hx hb hts bF2_X3 hown hK hT hr_p0 shc_6 rfl 3 (by decide) (ht_at2 hts 45 rfl) (fun _ h9 => h9) dX3_copyFrom_26 (fun v9 m175 h9 => ?_)
      obtain ⟨x176, rfl, gx176, kx176⟩ := h9 _ rfl
      refine lv_icmp_ge (tgt := 53) hx hb dX3_copyFrom_29 (by decide) (fun c177 => ?_) (fun c177 => ?_)
      · have t178 : x176.toInt ≤ ((i28 : Nat) : Int) := ti_le c177 rfl (nI_toInt (by omega))
        exact jn145 (nI i28) x176 ⟨(rg_t (a := ((i28 : Nat) : Int)) (nI_toInt (by omega)) (by omega) (by omega)), (by have q8 := ti_all x176; omega)⟩ _ _ hT hF hS m29 m30 m31 m32 m33 m34 m35 m36 m37 m175 ls (lv_sub hl [0, 1, 2] rfl)
      · have t179 : ((i28 : Nat) : Int) < x176.toInt := ti_nle c177 rfl (nI_toInt (by omega))
        refine lv_aload_n hx hb dX3_copyFrom_32 rfl (lv_at hl 1 rfl) ?_
        refine tw_get hx hb hts bF2_X3 hown hK hT hr_o0 shc_90 rfl 2 (by decide) (ht_at2 hts 47 rfl) (fun _ h9 => h9) dX3_copyFrom_33 (fun v9 m180 h9 => ?_)
        obtain ⟨b181, rfl, hg182⟩ := h9 _ rfl
        refine lv_iload_n hx hb dX3_copyFrom_36 rfl (lv_at hl 0 rfl) ?_
        refine tw_aald (i := (nI i28)) hx hb hK hT hg182 shc_70 rfl (vp_in_nI (by omega) (by decide)) dX3_copyFrom_37 (fun v9 m183 h9 => ?_)
        obtain ⟨b184, rfl, hg185⟩ := h9
        refine lv_aload_n hx hb dX3_copyFrom_38 rfl (lv_at hl 2 rfl) ?_
        refine tw_get hx hb hts bF2_X3 hown hK hT hr_p0 shc_6 rfl 2 (by decide) (ht_at2 hts 47 rfl) (fun _ h9 => h9) dX3_copyFrom_39 (fun v9 m186 h9 => ?_)
        obtain ⟨b187, rfl, hg188⟩ := h9 _ rfl
        refine lv_iload_n hx hb dX3_copyFrom_42 rfl (lv_at hl 0 rfl) ?_
        refine tw_aald (i := (nI i28)) hx hb hK hT hg188 shc_18 rfl (vp_in_nI (by omega) (by decide)) dX3_copyFrom_43 (fun v9 m189 h9 => ?_)
        obtain ⟨b190, rfl, hg191⟩ := h9
        have hFc := gA_free hG hA hS
        refine va_callv (va_runV (As := [.ref b190]) (rest := []) ⟨hx, hb, hml, hown, hts⟩ (c_copyW_i l dC dI kA adK adV G H nC nS b184 b190 hT hg185 hg191 (by omega) (by omega)) (cwV 1 hts (goodIn_app (goodIn_r _ [63, 64, 65, 66] rfl (by decide +kernel)) (goodIn_ca (goodIn_r _ [49, 50, 51, 5, 6, 7, 52, 53, 54, 55, 56, 57, 58, 59, 60, 61, 62] rfl (by decide +kernel)) (bs2_in _ _))) rfl rfl rfl (by decide +kernel) ⟨(Nat.le_of_ble_eq_true rfl), (Nat.le_of_ble_eq_true rfl)⟩) ⟨fun a U g mk q => by obtain ⟨q0, q1, qK, qE⟩ := q; exact ⟨q0, q1, va_K.moved (u := U) (U := U.calling g mk a) (Vm.Alike.refl U.vm) qK, EVC.blind g mk a qE⟩, gH_rc hK hT hg185 shc_94 rfl, fun U hU hW => ⟨rfl, hU, va_K.moved hW.alike hK, hE.call hS hFc hU hW⟩⟩ rfl rfl hl.1 rfl (lv_room (Nat.le_of_ble_eq_true rfl)) dX3_copyFrom_44 ⟨(Nat.le_of_ble_eq_true rfl), (Nat.le_of_ble_eq_true rfl)⟩) hS (fun q _ h => hFc q h) hFc (fun u t H locs ht hvm hw193 hB _ _ hS => ?_)
        obtain ⟨hT, hF1⟩ := hB
        rw [ht] at hT hF1
        have m194 := m29.kept (hF1.arr hr_lb skc_25 (by decide))
        have m195 := m30.kept (hF1.arr hr_la skc_77 (by decide))
        have m196 := (hF1.fld hr_p0 skc_6 (k := 4) (by decide) (by decide)).trans m31
        have m197 := (hF1.fld hr_o0 skc_90 (k := 1) (by decide) (by decide)).trans m32
        have m198 := (hF1.fld hr_p0 skc_6 (k := 1) (by decide) (by decide)).trans m33
        have m199 := (hF1.fld hr_gr skc_93 (k := 0) (by decide) (by decide)).trans m34
        have m200 := (hF1.fld hr_go skc_5 (k := 0) (by decide) (by decide)).trans m35
        have m201 := (hF1.fld hr_o0 skc_90 (k := 0) (by decide) (by decide)).trans m36
        have m202 := (hF1.fld hr_p0 skc_6 (k := 0) (by decide) (by decide)).trans m37
        have hF := hF.more hF1 (by decide)
        try dsimp only at hw193
        refine lv_iinc (v := nI (i28 + 1)) (lv' := [(2, .int (nI (i28 + 1))), (0, .ref o0), (1, .ref p0)]) hx hb dX3_copyFrom_47 hl (k := 0) rfl (nI_add i28 1) (by decide) rfl (fun ls hl => ?_)
        refine lv_goto (tgt := 24) hx hb dX3_copyFrom_50 (by decide) ?_
        exact ih169 (i28 + 1) (by omega) (by omega) _ _ hT hF hS m194 m195 m196 m197 m198 m199 m200 m201 m202 ls (lv_sub hl [0, 1, 2] rfl)
  exact key169 (30 - 0) 0 (by omega) (Nat.le_refl _) _ _ hT hF hS m25 m19 m20 m21 m22 m23 m24 m26 m27 ls (lv_sub hl [0, 1, 2] rfl)
def w_c_copyG_lC : List Cond := .code yX2_copyFrom cX2_copyFrom 2 none :: (HAppend.hAppend (α := List Cond) (β := List Cond) (γ := List Cond) [.fieldLink RX2 9 "SeaLand$Ground" "isLand" "[Z", .methodLink RX2 95 arraycopyName, .native arraycopyName, .static arraycopyName, .initialized "java/lang/System", .fieldLink RX2 15 "SeaLand$Ground" "height" "[I", .fieldLink RX2 19 "SeaLand$Ground" "soil" "[I", .fieldLink RX2 22 "SeaLand$Ground" "ditch" "[I", .fieldLink RX2 25 "SeaLand$Ground" "water" "[I", .fieldLink RX2 28 "SeaLand$Ground" "salt" "[I", .fieldLink RX2 31 "SeaLand$Ground" "dry" "[I", .fieldLink RX2 34 "SeaLand$Ground" "wet" "[I", .fieldLink RX2 54 "SeaLand$Ground" "rained" "I", .fieldLink RX2 57 "SeaLand$Ground" "cameIn" "I", .fieldLink RX2 64 "SeaLand$Ground" "wentOut" "I", .fieldLink RX2 50 "SeaLand$Ground" "toldMore" "I"] bs2)
set_option maxHeartbeats 4000000 in
set_option maxRecDepth 100000 in
theorem c_copyG_lC (l : Launch) (dC : Nat → ClassId) (dI : Nat → Nat → Nat) (kA : Nat → ClassId) (adK adV : Nat → Nat) (G : gT) (H0 : Heap) (nC nS : Int) (o0 : Nat) (p0 : Nat) (la : Nat) (lb : Nat) (VB : Nat → Int32)  (hT : gH (dC, dI) kA (SHc nC nS) G H0) (hr_o0 : G o0 = some 5) (hr_p0 : G p0 = some 93) (hm_la : el H0 o0 (dI 5 0) = some (.ref la)) (hr_la : G la = some 25) (hm_lb : el H0 p0 (dI 5 0) = some (.ref lb)) (hr_lb : G lb = some 77) (hc_VB : ct H0 lb 96 VB) (hgC : 0 ≤ nC ∧ nC ≤ 40) (hgS : 0 ≤ nS ∧ nS ≤ 60) : Met l yX2_copyFrom w_c_copyG_lC ({ frames := 2, cells := 0, slots := 0, locals := 60 }) (va_Pc [.ref o0, .ref p0] (fun U => U.heap = H0 ∧ va_K (dC, dI) vwCl (tyl kA) U ∧ EVC adK adV (gA G H0.size) U U.heap)) (va_Qv (fun (u : Unit) => True) (fun (_ : Unit) (t : State) => gH (dC, dI) kA (SHc nC nS) G t.heap ∧ gF (dC, dI) SKc G ([(5, 11), (5, 12), (5, 13), (5, 14), (25, 0), (26, 0), (27, 0), (28, 0), (29, 0), (30, 0), (31, 0), (32, 0)] : List (Nat × Nat)) H0 t.heap ∧ ct t.heap la 96 VB) (gA G H0.size)) 0 0 (gA G H0.size) := by
  refine Met.ofW (cc := cX2_copyFrom) (maxL := 2) (ret := none) (by decide) rfl ?_
  intro p e s m args below meth c s₁ B hml hv
  obtain ⟨rfl, hH0, hK, hE⟩ := hv
  have hx := B.exec
  have hb := B.bytes
  have hr := B.returns
  have hts := atoms_spec (ws := w_c_copyG_lC) B.pre
  have hown : s.vm.findClass RX2 = some m.cls := findClass_of_methodNamed B.named
  have hlocks := B.notSynchronized
  subst hH0
  generalize hAe : gA G s.heap.size = A at hE ⊢
  have hA : ∀ q : Nat, s.heap.size ≤ q → A q := fun q h => by rw [← hAe]; exact Or.inr h
  have hG := gA_of hAe
  have hS : va_S A s.heap s.heap [] := va_S.rf
  have hF : gF (dC, dI) SKc G ([(5, 11), (5, 12), (5, 13), (5, 14), (25, 0), (26, 0), (27, 0), (28, 0), (29, 0), (30, 0), (31, 0), (32, 0)] : List (Nat × Nat)) s.heap s.heap := gF.rf
  have hl := lv_entry ([.ref o0, .ref p0]) (n := 2) (Nat.le_of_ble_eq_true rfl)
  rw [lg_entry_eq]
  generalize (lg_sl ([.ref o0, .ref p0]) ++ List.replicate (2 - (lg_sl ([.ref o0, .ref p0])).length) Slot.unset).toArray = ls at hl ⊢
  have hl : lv_has ls 2 [(0, .ref o0), (1, .ref p0)] := hl
  refine lv_aload_n hx hb dX2_copyFrom_0 rfl (lv_at hl 1 rfl) ?_
  refine tw_getM (v := .ref lb) hx hb hts bF2_X2 hown hK hT hr_p0 shc_93 rfl 0 (by decide) (ht_at2 hts 0 rfl) (fun _ h9 => h9) hm_lb dX2_copyFrom_1 ?_
  refine lv_iconst (v := 0) hx hb dX2_copyFrom_4 (by decide) ?_
  refine lv_aload_n hx hb dX2_copyFrom_5 rfl (lv_at hl 0 rfl) ?_
  refine tw_getM (v := .ref la) hx hb hts bF2_X2 hown hK hT hr_o0 shc_5 rfl 0 (by decide) (ht_at2 hts 0 rfl) (fun _ h9 => h9) hm_la dX2_copyFrom_6 ?_
  refine lv_iconst (v := 0) hx hb dX2_copyFrom_9 (by decide) ?_
  refine lv_bipush (v := 96) hx hb dX2_copyFrom_10 (by decide) ?_
  refine tw_copyE (ty := .boolean) hx hb (hml.trans hl.1.symm) hown (ht_at2 hts 1 rfl) (ht_at2 hts 2 rfl) (ht_at2 hts 3 rfl) (ht_at2 hts 4 rfl) hK hT hG hS hr_lb hr_la shc_77 shc_25 rfl rfl (by decide) (by decide) (by decide) (by decide) (by decide) (by decide) (by decide) (fun _ _ h9 => by obtain ⟨x9, e9, a9, b9⟩ := h9; exact ⟨x9, e9, fit_b ⟨a9, b9⟩⟩) (fun _ _ _ h9 => h9) (Nat.le_of_ble_eq_true rfl) (Nat.le_of_ble_eq_true rfl) dX2_copyFrom_12 (fun H locs hT oq ce1 hS => ?_)
  have hF := hF.ast hr_la skc_25 oq (by decide)
  have m2 : ct H la 96 VB := fun i9 hi9 => (ce1 i9 (by have q8 : (96 : Int32).toNatClampNeg = 96 := (by decide); omega)).trans (hc_VB i9 hi9)
  refine lv_aload_n hx hb dX2_copyFrom_15 rfl (lv_at hl 1 rfl) ?_
  refine tw_get hx hb hts bF2_X2 hown hK hT hr_p0 shc_93 rfl 1 (by decide) (ht_at2 hts 5 rfl) (fun _ h9 => h9) dX2_copyFrom_16 (fun v9 m6 h9 => ?_)
  obtain ⟨b7, rfl, hg8⟩ := h9 _ rfl
  refine lv_iconst (v := 0) hx hb dX2_copyFrom_19 (by decide) ?_
  refine lv_aload_n hx hb dX2_copyFrom_20 rfl (lv_at hl 0 rfl) ?_
  refine tw_get hx hb hts bF2_X2 hown hK hT hr_o0 shc_5 rfl 1 (by decide) (ht_at2 hts 5 rfl) (fun _ h9 => h9) dX2_copyFrom_21 (fun v9 m9 h9 => ?_)
  obtain ⟨b10, rfl, hg11⟩ := h9 _ rfl
  refine lv_iconst (v := 0) hx hb dX2_copyFrom_24 (by decide) ?_
  refine lv_bipush (v := 96) hx hb dX2_copyFrom_25 (by decide) ?_
  refine tw_copy (ty := .int) hx hb (hml.trans hl.1.symm) hown (ht_at2 hts 1 rfl) (ht_at2 hts 2 rfl) (ht_at2 hts 3 rfl) (ht_at2 hts 4 rfl) hK hT hG hS hg8 hg11 shc_78 shc_26 rfl rfl (by decide) (by decide) (by decide) (by decide) (by decide) (fun _ _ h9 => by obtain ⟨x9, e9, _⟩ := h9; exact ⟨x9, e9, rfl⟩) (fun _ _ _ h9 => h9) (Nat.le_of_ble_eq_true rfl) (Nat.le_of_ble_eq_true rfl) dX2_copyFrom_27 (fun H locs hT oq hS => ?_)
  have hF := hF.ast hg11 skc_26 oq (by decide)
  have m15 := m2.kept (oq _ (gne hr_la hg11 (by decide)))
  refine lv_aload_n hx hb dX2_copyFrom_30 rfl (lv_at hl 1 rfl) ?_
  refine tw_get hx hb hts bF2_X2 hown hK hT hr_p0 shc_93 rfl 2 (by decide) (ht_at2 hts 6 rfl) (fun _ h9 => h9) dX2_copyFrom_31 (fun v9 m18 h9 => ?_)
  obtain ⟨b19, rfl, hg20⟩ := h9 _ rfl
  refine lv_iconst (v := 0) hx hb dX2_copyFrom_34 (by decide) ?_
  refine lv_aload_n hx hb dX2_copyFrom_35 rfl (lv_at hl 0 rfl) ?_
  refine tw_get hx hb hts bF2_X2 hown hK hT hr_o0 shc_5 rfl 2 (by decide) (ht_at2 hts 6 rfl) (fun _ h9 => h9) dX2_copyFrom_36 (fun v9 m21 h9 => ?_)
  obtain ⟨b22, rfl, hg23⟩ := h9 _ rfl
  refine lv_iconst (v := 0) hx hb dX2_copyFrom_39 (by decide) ?_
  refine lv_bipush (v := 96) hx hb dX2_copyFrom_40 (by decide) ?_
  refine tw_copy (ty := .int) hx hb (hml.trans hl.1.symm) hown (ht_at2 hts 1 rfl) (ht_at2 hts 2 rfl) (ht_at2 hts 3 rfl) (ht_at2 hts 4 rfl) hK hT hG hS hg20 hg23 shc_79 shc_27 rfl rfl (by decide) (by decide) (by decide) (by decide) (by decide) (fun _ _ h9 => by obtain ⟨x9, e9, _⟩ := h9; exact ⟨x9, e9, rfl⟩) (fun _ _ _ h9 => h9) (Nat.le_of_ble_eq_true rfl) (Nat.le_of_ble_eq_true rfl) dX2_copyFrom_42 (fun H locs hT oq hS => ?_)
  have hF := hF.ast hg23 skc_27 oq (by decide)
  have m27 := m15.kept (oq _ (gne hr_la hg23 (by decide)))
  refine lv_aload_n hx hb dX2_copyFrom_45 rfl (lv_at hl 1 rfl) ?_
  refine tw_get hx hb hts bF2_X2 hown hK hT hr_p0 shc_93 rfl 3 (by decide) (ht_at2 hts 7 rfl) (fun _ h9 => h9) dX2_copyFrom_46 (fun v9 m32 h9 => ?_)
  obtain ⟨b33, rfl, hg34⟩ := h9 _ rfl
  refine lv_iconst (v := 0) hx hb dX2_copyFrom_49 (by decide) ?_
  refine lv_aload_n hx hb dX2_copyFrom_50 rfl (lv_at hl 0 rfl) ?_
  refine tw_get hx hb hts bF2_X2 hown hK hT hr_o0 shc_5 rfl 3 (by decide) (ht_at2 hts 7 rfl) (fun _ h9 => h9) dX2_copyFrom_51 (fun v9 m35 h9 => ?_)
  obtain ⟨b36, rfl, hg37⟩ := h9 _ rfl
  refine lv_iconst (v := 0) hx hb dX2_copyFrom_54 (by decide) ?_
  refine lv_bipush (v := 96) hx hb dX2_copyFrom_55 (by decide) ?_
  refine tw_copy (ty := .int) hx hb (hml.trans hl.1.symm) hown (ht_at2 hts 1 rfl) (ht_at2 hts 2 rfl) (ht_at2 hts 3 rfl) (ht_at2 hts 4 rfl) hK hT hG hS hg34 hg37 shc_80 shc_28 rfl rfl (by decide) (by decide) (by decide) (by decide) (by decide) (fun _ _ h9 => by obtain ⟨x9, e9, _⟩ := h9; exact ⟨x9, e9, rfl⟩) (fun _ _ _ h9 => h9) (Nat.le_of_ble_eq_true rfl) (Nat.le_of_ble_eq_true rfl) dX2_copyFrom_57 (fun H locs hT oq hS => ?_)
  have hF := hF.ast hg37 skc_28 oq (by decide)
  have m41 := m27.kept (oq _ (gne hr_la hg37 (by decide)))
  refine lv_aload_n hx hb dX2_copyFrom_60 rfl (lv_at hl 1 rfl) ?_
  refine tw_get hx hb hts bF2_X2 hown hK hT hr_p0 shc_93 rfl 4 (by decide) (ht_at2 hts 8 rfl) (fun _ h9 => h9) dX2_copyFrom_61 (fun v9 m48 h9 => ?_)
  obtain ⟨b49, rfl, hg50⟩ := h9 _ rfl
  refine lv_iconst (v := 0) hx hb dX2_copyFrom_64 (by decide) ?_
  refine lv_aload_n hx hb dX2_copyFrom_65 rfl (lv_at hl 0 rfl) ?_
  refine tw_get hx hb hts bF2_X2 hown hK hT hr_o0 shc_5 rfl 4 (by decide) (ht_at2 hts 8 rfl) (fun _ h9 => h9) dX2_copyFrom_66 (fun v9 m51 h9 => ?_)
  obtain ⟨b52, rfl, hg53⟩ := h9 _ rfl
  refine lv_iconst (v := 0) hx hb dX2_copyFrom_69 (by decide) ?_
  refine lv_bipush (v := 96) hx hb dX2_copyFrom_70 (by decide) ?_
  refine tw_copy (ty := .int) hx hb (hml.trans hl.1.symm) hown (ht_at2 hts 1 rfl) (ht_at2 hts 2 rfl) (ht_at2 hts 3 rfl) (ht_at2 hts 4 rfl) hK hT hG hS hg50 hg53 shc_81 shc_29 rfl rfl (by decide) (by decide) (by decide) (by decide) (by decide) (fun _ _ h9 => by obtain ⟨x9, e9, _⟩ := h9; exact ⟨x9, e9, rfl⟩) (fun _ _ _ h9 => h9) (Nat.le_of_ble_eq_true rfl) (Nat.le_of_ble_eq_true rfl) dX2_copyFrom_72 (fun H locs hT oq hS => ?_)
  have hF := hF.ast hg53 skc_29 oq (by decide)
  have m57 := m41.kept (oq _ (gne hr_la hg53 (by decide)))
  refine lv_aload_n hx hb dX2_copyFrom_75 rfl (lv_at hl 1 rfl) ?_
  refine tw_get hx hb hts bF2_X2 hown hK hT hr_p0 shc_93 rfl 5 (by decide) (ht_at2 hts 9 rfl) (fun _ h9 => h9) dX2_copyFrom_76 (fun v9 m66 h9 => ?_)
  obtain ⟨b67, rfl, hg68⟩ := h9 _ rfl
  refine lv_iconst (v := 0) hx hb dX2_copyFrom_79 (by decide) ?_
  refine lv_aload_n hx hb dX2_copyFrom_80 rfl (lv_at hl 0 rfl) ?_
  refine tw_get hx hb hts bF2_X2 hown hK hT hr_o0 shc_5 rfl 5 (by decide) (ht_at2 hts 9 rfl) (fun _ h9 => h9) dX2_copyFrom_81 (fun v9 m69 h9 => ?_)
  obtain ⟨b70, rfl, hg71⟩ := h9 _ rfl
  refine lv_iconst (v := 0) hx hb dX2_copyFrom_84 (by decide) ?_
  refine lv_bipush (v := 96) hx hb dX2_copyFrom_85 (by decide) ?_
  refine tw_copy (ty := .int) hx hb (hml.trans hl.1.symm) hown (ht_at2 hts 1 rfl) (ht_at2 hts 2 rfl) (ht_at2 hts 3 rfl) (ht_at2 hts 4 rfl) hK hT hG hS hg68 hg71 shc_82 shc_30 rfl rfl (by decide) (by decide) (by decide) (by decide) (by decide) (fun _ _ h9 => by obtain ⟨x9, e9, _⟩ := h9; exact ⟨x9, e9, rfl⟩) (fun _ _ _ h9 => h9) (Nat.le_of_ble_eq_true rfl) (Nat.le_of_ble_eq_true rfl) dX2_copyFrom_87 (fun H locs hT oq hS => ?_)
  have hF := hF.ast hg71 skc_30 oq (by decide)
  have m75 := m57.kept (oq _ (gne hr_la hg71 (by decide)))
  refine lv_aload_n hx hb dX2_copyFrom_90 rfl (lv_at hl 1 rfl) ?_
  refine tw_get hx hb hts bF2_X2 hown hK hT hr_p0 shc_93 rfl 6 (by decide) (ht_at2 hts 10 rfl) (fun _ h9 => h9) dX2_copyFrom_91 (fun v9 m86 h9 => ?_)
  obtain ⟨b87, rfl, hg88⟩ := h9 _ rfl
  refine lv_iconst (v := 0) hx hb dX2_copyFrom_94 (by decide) ?_
  refine lv_aload_n hx hb dX2_copyFrom_95 rfl (lv_at hl 0 rfl) ?_
  refine tw_get hx hb hts bF2_X2 hown hK hT hr_o0 shc_5 rfl 6 (by decide) (ht_at2 hts 10 rfl) (fun _ h9 => h9) dX2_copyFrom_96 (fun v9 m89 h9 => ?_)
  obtain ⟨b90, rfl, hg91⟩ := h9 _ rfl
  refine lv_iconst (v := 0) hx hb dX2_copyFrom_99 (by decide) ?_
  refine lv_bipush (v := 96) hx hb dX2_copyFrom_100 (by decide) ?_
  refine tw_copy (ty := .int) hx hb (hml.trans hl.1.symm) hown (ht_at2 hts 1 rfl) (ht_at2 hts 2 rfl) (ht_at2 hts 3 rfl) (ht_at2 hts 4 rfl) hK hT hG hS hg88 hg91 shc_83 shc_31 rfl rfl (by decide) (by decide) (by decide) (by decide) (by decide) (fun _ _ h9 => by obtain ⟨x9, e9, _⟩ := h9; exact ⟨x9, e9, rfl⟩) (fun _ _ _ h9 => h9) (Nat.le_of_ble_eq_true rfl) (Nat.le_of_ble_eq_true rfl) dX2_copyFrom_102 (fun H locs hT oq hS => ?_)
  have hF := hF.ast hg91 skc_31 oq (by decide)
  have m95 := m75.kept (oq _ (gne hr_la hg91 (by decide)))
  refine lv_aload_n hx hb dX2_copyFrom_105 rfl (lv_at hl 1 rfl) ?_
  refine tw_get hx hb hts bF2_X2 hown hK hT hr_p0 shc_93 rfl 7 (by decide) (ht_at2 hts 11 rfl) (fun _ h9 => h9) dX2_copyFrom_106 (fun v9 m108 h9 => ?_)
  obtain ⟨b109, rfl, hg110⟩ := h9 _ rfl
  refine lv_iconst (v := 0) hx hb dX2_copyFrom_109 (by decide) ?_
  refine lv_aload_n hx hb dX2_copyFrom_110 rfl (lv_at hl 0 rfl) ?_
  refine tw_get hx hb hts bF2_X2 hown hK hT hr_o0 shc_5 rfl 7 (by decide) (ht_at2 hts 11 rfl) (fun _ h9 => h9) dX2_copyFrom_111 (fun v9 m111 h9 => ?_)
  obtain ⟨b112, rfl, hg113⟩ := h9 _ rfl
  refine lv_iconst (v := 0) hx hb dX2_copyFrom_114 (by decide) ?_
  refine lv_bipush (v := 96) hx hb dX2_copyFrom_115 (by decide) ?_
  refine tw_copy (ty := .int) hx hb (hml.trans hl.1.symm) hown (ht_at2 hts 1 rfl) (ht_at2 hts 2 rfl) (ht_at2 hts 3 rfl) (ht_at2 hts 4 rfl) hK hT hG hS hg110 hg113 shc_84 shc_32 rfl rfl (by decide) (by decide) (by decide) (by decide) (by decide) (fun _ _ h9 => by obtain ⟨x9, e9, _⟩ := h9; exact ⟨x9, e9, rfl⟩) (fun _ _ _ h9 => h9) (Nat.le_of_ble_eq_true rfl) (Nat.le_of_ble_eq_true rfl) dX2_copyFrom_117 (fun H locs hT oq hS => ?_)
  have hF := hF.ast hg113 skc_32 oq (by decide)
  have m117 := m95.kept (oq _ (gne hr_la hg113 (by decide)))
  refine lv_aload_n hx hb dX2_copyFrom_120 rfl (lv_at hl 0 rfl) ?_
  refine lv_aload_n hx hb dX2_copyFrom_121 rfl (lv_at hl 1 rfl) ?_
  refine tw_get hx hb hts bF2_X2 hown hK hT hr_p0 shc_93 rfl 11 (by decide) (ht_at2 hts 12 rfl) (fun _ h9 => h9) dX2_copyFrom_122 (fun v9 m132 h9 => ?_)
  obtain ⟨x133, rfl, gx133, kx133⟩ := h9 _ rfl
  refine tw_put (v := .int x133) (ty := .int) hx hb hts bF2_X2 tyX2 tyX2_ok nmX2 hown hK hT hG hS hr_o0 shc_5 rfl 11 (by decide) (ht_at2 hts 12 rfl) (fun _ h9 => h9) rfl (by decide +kernel) rfl rfl (gl_at rfl (gi_all _)) dX2_copyFrom_125 (fun H locs hT oq m134 oj hS => ?_)
  have hF := hF.put hr_o0 skc_5 oq oj (by decide)
  have m138 := m117.kept (oq _ (gne hr_la hr_o0 (by decide)))
  refine lv_aload_n hx hb dX2_copyFrom_128 rfl (lv_at hl 0 rfl) ?_
  refine lv_aload_n hx hb dX2_copyFrom_129 rfl (lv_at hl 1 rfl) ?_
  refine tw_get hx hb hts bF2_X2 hown hK hT hr_p0 shc_93 rfl 12 (by decide) (ht_at2 hts 13 rfl) (fun _ h9 => h9) dX2_copyFrom_130 (fun v9 m154 h9 => ?_)
  obtain ⟨x155, rfl, gx155, kx155⟩ := h9 _ rfl
  refine tw_put (v := .int x155) (ty := .int) hx hb hts bF2_X2 tyX2 tyX2_ok nmX2 hown hK hT hG hS hr_o0 shc_5 rfl 12 (by decide) (ht_at2 hts 13 rfl) (fun _ h9 => h9) rfl (by decide +kernel) rfl rfl (gl_at rfl (gi_all _)) dX2_copyFrom_133 (fun H locs hT oq m156 oj hS => ?_)
  have hF := hF.put hr_o0 skc_5 oq oj (by decide)
  have m160 := m138.kept (oq _ (gne hr_la hr_o0 (by decide)))
  refine lv_aload_n hx hb dX2_copyFrom_136 rfl (lv_at hl 0 rfl) ?_
  refine lv_aload_n hx hb dX2_copyFrom_137 rfl (lv_at hl 1 rfl) ?_
  refine tw_get hx hb hts bF2_X2 hown hK hT hr_p0 shc_93 rfl 13 (by decide) (ht_at2 hts 14 rfl) (fun _ h9 => h9) dX2_copyFrom_138 (fun v9 m178 h9 => ?_)
  obtain ⟨x179, rfl, gx179, kx179⟩ := h9 _ rfl
  refine tw_put (v := .int x179) (ty := .int) hx hb hts bF2_X2 tyX2 tyX2_ok nmX2 hown hK hT hG hS hr_o0 shc_5 rfl 13 (by decide) (ht_at2 hts 14 rfl) (fun _ h9 => h9) rfl (by decide +kernel) rfl rfl (gl_at rfl (gi_all _)) dX2_copyFrom_141 (fun H locs hT oq m180 oj hS => ?_)
  have hF := hF.put hr_o0 skc_5 oq oj (by decide)
  have m184 := m160.kept (oq _ (gne hr_la hr_o0 (by decide)))
  refine lv_aload_n hx hb dX2_copyFrom_144 rfl (lv_at hl 0 rfl) ?_
  refine lv_aload_n hx hb dX2_copyFrom_145 rfl (lv_at hl 1 rfl) ?_
  refine tw_get hx hb hts bF2_X2 hown hK hT hr_p0 shc_93 rfl 14 (by decide) (ht_at2 hts 15 rfl) (fun _ h9 => h9) dX2_copyFrom_146 (fun v9 m204 h9 => ?_)
  obtain ⟨x205, rfl, gx205, kx205⟩ := h9 _ rfl
  refine tw_put (v := .int x205) (ty := .int) hx hb hts bF2_X2 tyX2 tyX2_ok nmX2 hown hK hT hG hS hr_o0 shc_5 rfl 14 (by decide) (ht_at2 hts 15 rfl) (fun _ h9 => h9) rfl (by decide +kernel) rfl rfl (gl_at rfl (gi_all _)) dX2_copyFrom_149 (fun H locs hT oq m206 oj hS => ?_)
  have hF := hF.put hr_o0 skc_5 oq oj (by decide)
  have m210 := m184.kept (oq _ (gne hr_la hr_o0 (by decide)))
  exact W.vret hx hb hr (fun t ht hW => ⟨⟨(), rfl, (by exact trivial), by (try dsimp only); rw [ht]; exact ⟨hT, hF, m210⟩⟩, hS.F ht⟩) hS.2.2 dX2_copyFrom_152
def w_c_copyL_lC : List Cond := .code yX3_copyFrom cX3_copyFrom 3 none :: (HAppend.hAppend (α := List Cond) (β := List Cond) (γ := List Cond) [.fieldLink RX3 12 "SeaLand$Lake" "sky" "LSeaLand$Sky;", .code yX8_copyFrom cX8_copyFrom 2 none, .fieldLink RX8 9 "SeaLand$Sky" "tides" "[I", .methodLink RX8 63 arraycopyName, .native arraycopyName, .static arraycopyName, .initialized "java/lang/System", .fieldLink RX8 15 "SeaLand$Sky" "stormFrom" "[I", .fieldLink RX8 18 "SeaLand$Sky" "stormTo" "[I", .fieldLink RX8 21 "SeaLand$Sky" "stormMore" "[I", .fieldLink RX8 27 "SeaLand$Sky" "wind" "LSeaLand$Tellings;", .code yX9_copyFrom cX9_copyFrom 2 none, .fieldLink RX9 9 "SeaLand$Tellings" "hours" "[I", .methodLink RX9 23 arraycopyName, .fieldLink RX9 15 "SeaLand$Tellings" "numbers" "[I", .fieldLink RX9 18 "SeaLand$Tellings" "told" "I", .methodLink RX8 69 yX9_copyFrom, .instanceMethod yX9_copyFrom, .selects RX9 yX9_copyFrom yX9_copyFrom, .initialized RX9, .fieldLink RX8 31 "SeaLand$Sky" "rain" "LSeaLand$Tellings;", .fieldLink RX8 34 "SeaLand$Sky" "storms" "I", .methodLink RX3 175 yX8_copyFrom, .instanceMethod yX8_copyFrom, .selects RX8 yX8_copyFrom yX8_copyFrom, .initialized RX8, .fieldLink RX3 21 "SeaLand$Lake" "ground" "LSeaLand$Ground;", .code yX2_copyFrom cX2_copyFrom 2 none, .fieldLink RX2 9 "SeaLand$Ground" "isLand" "[Z", .methodLink RX2 95 arraycopyName, .fieldLink RX2 15 "SeaLand$Ground" "height" "[I", .fieldLink RX2 19 "SeaLand$Ground" "soil" "[I", .fieldLink RX2 22 "SeaLand$Ground" "ditch" "[I", .fieldLink RX2 25 "SeaLand$Ground" "water" "[I", .fieldLink RX2 28 "SeaLand$Ground" "salt" "[I", .fieldLink RX2 31 "SeaLand$Ground" "dry" "[I", .fieldLink RX2 34 "SeaLand$Ground" "wet" "[I", .fieldLink RX2 54 "SeaLand$Ground" "rained" "I", .fieldLink RX2 57 "SeaLand$Ground" "cameIn" "I", .fieldLink RX2 64 "SeaLand$Ground" "wentOut" "I", .fieldLink RX2 50 "SeaLand$Ground" "toldMore" "I", .methodLink RX3 179 yX2_copyFrom, .instanceMethod yX2_copyFrom, .selects RX2 yX2_copyFrom yX2_copyFrom, .initialized RX2, .fieldLink RX3 47 "SeaLand$Lake" "built" "I", .fieldLink RX3 32 "SeaLand$Lake" "hour" "I", .fieldLink RX3 27 "SeaLand$Lake" "works" "[LSeaLand$Work;", .code yX10_copyFrom cX10_copyFrom 2 none, .fieldLink RX10 9 "SeaLand$Work" "thick" "[I", .methodLink RX10 60 arraycopyName, .fieldLink RX10 15 "SeaLand$Work" "clay" "[I", .fieldLink RX10 18 "SeaLand$Work" "kind" "I", .fieldLink RX10 22 "SeaLand$Work" "square" "I", .fieldLink RX10 25 "SeaLand$Work" "to" "I", .fieldLink RX10 28 "SeaLand$Work" "size" "I", .fieldLink RX10 31 "SeaLand$Work" "width" "I", .fieldLink RX10 34 "SeaLand$Work" "layers" "I", .fieldLink RX10 37 "SeaLand$Work" "coal" "I", .fieldLink RX10 40 "SeaLand$Work" "on" "Z", .fieldLink RX10 44 "SeaLand$Work" "latest" "I", .fieldLink RX10 47 "SeaLand$Work" "total" "I", .methodLink RX3 182 yX10_copyFrom, .instanceMethod yX10_copyFrom, .selects RX10 yX10_copyFrom yX10_copyFrom, .initialized RX10] bs2)
