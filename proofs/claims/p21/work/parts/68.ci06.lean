set_option maxHeartbeats 4000000 in
theorem k_found (l : Launch) (hlt : l.stackTraces = false) (dC : Nat → ClassId) (dI : Nat → Nat → Nat) (kA : Nat → ClassId) (adK adV : Nat → Nat) (Pr : Nat → Prop) (H0 : Heap) (x ou : Nat)  {g : gz} (hPr : ∀ a, Pr a → a < H0.size) (hI : CJ dC dI kA Pr g x ou H0) : Met l yL_found w_l_foundZ ({ frames := 28, cells := 1, slots := 6, locals := 634 }) (va_Pc [.ref x, .ref ou] (fun U => U.heap = H0 ∧ va_K (dC, dI) vwCl (tyl kA) U ∧ EVC adK adV (fun q => ¬ Pr q) U U.heap ∧ NC U ∧ AO U)) (va_Qi (fun (r : Int32) (u : Int32 × Int32) => r.toInt = (foK g) ∧ u.1.toInt = (foK g) ∧ ((foK g) = 0 → u.2.toInt = (laG g.2.1).1)) (fun (u : Int32 × Int32) (t : State) => CJ dC dI kA Pr (foZ g) x ou t.heap ∧ (u.1 = 0 → el t.heap ou 0 = some (.long u.2.toInt64))) (fun q => ¬ Pr q)) 1 6 (fun q => ¬ Pr q) := by
  obtain ⟨G, nC, nS, bo, wa, wc, hT, hx, hou, hgC, hgS, hb3, hb51, hb14, hb17, hp9, hX1, hX2, hX3⟩ := hI
  have hA9 := gA_pr hPr hp9
  obtain ⟨bd, hd9, sA, lw, kn, sf, sto, stp9, hl, ln, yv, dv, vh, vK, vF, vT, vS, am_bd, ar_bd, am_hd9, ar_hd9, ac_vh, am_sA, ar_sA, am_hl, am_yv, am_dv, am_lw, ar_lw, am_ln, am_kn, ar_kn, ac_vK, am_sf, ar_sf, ac_vF, am_sto, ar_sto, ac_vT, am_stp9, ar_stp9, ac_vS, hP, hS⟩ := id hX3
  obtain ⟨pn, pct, pz⟩ := id hP
  obtain ⟨ta_2, bd_2, tn_2, fa_2, vo_2, vc_2, am_tn_2, am_ta_2, ar_ta_2, ac_vc_2, am_bd_2, ar_bd_2, am_fa_2, am_vo_2, hP_2⟩ := id hX2
  obtain ⟨pe0, pe1, pe2, pe3, pP⟩ := id hP_2
  obtain rfl : bd = bd_2 := ref_eq am_bd am_bd_2
  subst pe0 pe1 pe2 pe3
  obtain ⟨_, am_sp, h9⟩ := gH_fld hT ar_bd shc_3 (k := 9) (by decide)
  obtain ⟨sp, rfl, ar_sp⟩ := h9 _ rfl
  obtain ⟨_, am_po, h9⟩ := gH_fld hT ar_bd shc_3 (k := 8) (by decide)
  obtain ⟨po, rfl, ar_po⟩ := h9 _ rfl
  obtain ⟨_, am_kn9, h9⟩ := gH_fld hT ar_sp shc_152 (k := 2) (by decide)
  obtain ⟨kn9, rfl, ar_kn9⟩ := h9 _ rfl
  obtain ⟨vK9, ac_vK9, -⟩ := ct_of hT ar_kn9 shc_155
  obtain ⟨_, am_sf9, h9⟩ := gH_fld hT ar_sp shc_152 (k := 7) (by decide)
  obtain ⟨sf9, rfl, ar_sf9⟩ := h9 _ rfl
  obtain ⟨vF9, ac_vF9, -⟩ := ct_of hT ar_sf9 shc_160
  obtain ⟨_, am_st9, h9⟩ := gH_fld hT ar_sp shc_152 (k := 8) (by decide)
  obtain ⟨st9, rfl, ar_st9⟩ := h9 _ rfl
  obtain ⟨vE9, ac_vE9, -⟩ := ct_of hT ar_st9 shc_161
  obtain ⟨_, am_sp9, h9⟩ := gH_fld hT ar_sp shc_152 (k := 9) (by decide)
  obtain ⟨sp9, rfl, ar_sp9⟩ := h9 _ rfl
  obtain ⟨vS9, ac_vS9, -⟩ := ct_of hT ar_sp9 shc_162
  have hTs := gH_mp (f := zt_s1) hT (rs_s1 hgC hgS)
  have hps : ∀ a t, zmp zt_s1 G a = some t → ¬ Pr a := fun a t h => by obtain ⟨u, h1, -⟩ := zmp_e h; exact hp9 a u h1
  have hAs := gA_pr hPr hps
  refine Met.weak (l_foundZ (l := l) (hlt := hlt) (dC := dC) (dI := dI) (kA := kA) (adK := adK) (adV := adV) (G := (zmp zt_s1 G)) (H0 := H0) (nC := nC) (nS := nS) (o0 := x) (ou := ou) (bd := bd) (tn := g.2.1.1) (ta := ta_2) (sp := sp) (fo := lw) (hv0 := hl) (kn9 := kn9) (sf9 := sf9) (st9 := st9) (sp9 := sp9) (vc := g.2.1.2.1) (vK := vK9) (vF := vF9) (vE := vE9) (vS := vS9) (N := g.2.1.1.toNatClampNeg) (fv := (fvG g.2.1)) (hT := hTs) (hr_o0 := (zmp_s hx (by decide))) (hr_ou := (zmp_s hou (by decide))) (hm_bd := am_bd) (hr_bd := (zmp_s ar_bd (by decide))) (hm_tn := am_tn_2) (hm_ta := am_ta_2) (hr_ta := (zmp_s ar_ta_2 (by decide))) (hm_sp := am_sp) (hr_sp := (zmp_s ar_sp (by decide))) (hm_fo := am_lw) (hr_fo := (zmp_s ar_lw (by decide))) (hm_hv0 := am_hl) (hm_kn9 := am_kn9) (hr_kn9 := (zmp_s ar_kn9 (by decide))) (hm_sf9 := am_sf9) (hr_sf9 := (zmp_s ar_sf9 (by decide))) (hm_st9 := am_st9) (hr_st9 := (zmp_s ar_st9 (by decide))) (hm_sp9 := am_sp9) (hr_sp9 := (zmp_s ar_sp9 (by decide))) (hq0 := pP.1) (hc_vc := ac_vc_2) (hc_vK := ac_vK9) (hc_vF := ac_vF9) (hc_vE := ac_vE9) (hc_vS := ac_vS9) (hN := (tn_of rfl pP.1.1).symm) (hfv := rfl) (hgC := hgC) (hgS := hgS)) (fun a U h => ⟨h.1, h.2.1, h.2.2.1, EVC.narrow h.2.2.2.1 hAs, h.2.2.2.2.1⟩) (fun a st oc t _ h => ?_) hAs
  obtain ⟨⟨r, ⟨c1, f1, t1, l1, fo1, sp1, a1, vK1, vF1, vE1, vS1⟩, e1, hp, hB⟩, hF⟩ := h
  (try dsimp only at hp hB)
  obtain ⟨⟨hq0, hq1, hq2⟩, ⟨hp1, hp2⟩, hp3, hp4⟩ := hp
  have e3 : t1 = 0 := Int32.toInt_inj.mp (hp2.trans (by decide : (0 : Int) = (0 : Int32).toInt))
  have e4 : f1 = fvG g.2.1 := Int32.toInt_inj.mp hp1
  rw [e3, e4] at hB
  have z9 : foK g = prK (laG g.2.1).2 g.2.2.2.1 := rfl
  have z8 := prK_s (laG g.2.1).2 g.2.2.2.1
  have hp5 : (r.toInt = 0 ∧ (laG g.2.1).2 = -1 ∧ hl.toInt ≤ 0 ∧ fo1 = sp ∧ sp1 = lw ∧ zRe (tc g.2.1.2.1) g.2.1.1.toNatClampNeg l1.toNatClampNeg vK1 vF1 vE1 (tz vS1)) ∨ (r.toInt = 1 ∧ (laG g.2.1).2 ≠ -1 ∧ fo1 = lw ∧ sp1 = sp) ∨ (r.toInt = 2 ∧ (laG g.2.1).2 = -1 ∧ 0 < hl.toInt ∧ fo1 = lw ∧ sp1 = sp) := hp3
  have hp6 : r.toInt = 0 → l1.toInt = a1.toInt ∧ a1.toInt = (laG g.2.1).1 := hp4
  clear hp3 hp4
  obtain ⟨_, ml9, hl9⟩ := gH_fld hB.1 (zmp_s ar_sp (by decide)) shc_152 (k := 11) (by decide)
  obtain ⟨l9, rfl, hl0, hl2⟩ := hl9 _ rfl
  obtain rfl : l1 = l9 := by have h9 := ml9.symm.trans (hB.2.2.2.2.1); cases h9; rfl
  rcases hp5 with ⟨y0, y1, y2, rfl, rfl, ze⟩ | ⟨y0, y1, rfl, rfl⟩ | ⟨y0, y1, y2, rfl, rfl⟩
  · have pz0 := pz.resolve_right (fun h9 => by have := h9.2; omega)
    obtain ⟨hb0, z1, z2, z3, z4, z5, z6, z7⟩ := pz0
    have hp7 := hp6 y0
    obtain ⟨_, am_s9, h9⟩ := gH_fld hT ar_bd shc_3 (k := 14) (by decide); have hs9 := h9 _ rfl; obtain ⟨_, am_c9, h9⟩ := gH_fld hT hx shc_14 (k := 8) (by decide); have hc9 := h9 _ rfl
    have hT2 : gH (dC, dI) kA (SHc nC nS) (zmp zt_rF (zmp zt_s1 G)) t.heap := gH_un (f := zt_rF) (b := 166) (c := 167) hB.1 rs_rF (fun a u ha hu => by
      obtain ⟨t9, h1, h2⟩ := zmp_e ha
      obtain rfl : t9 = 3 := (fun u h => (by decide : ∀ z ∈ ZL_s1, z.2 = 166 → z.1 = 3) (u, 166) (zt_m (L := ZL_s1) h) rfl) t9 h2
      obtain rfl : a = bd := (hb3 a h1).trans (hb3 bd ar_bd).symm
      obtain rfl : 3 = u := Option.some.inj ((show zt_rF 166 = some 3 from by decide).symm.trans hu)
      have h8 := hB.1 _ _ ha
      rw [shc_166] at h8
      rw [shc_3]
      refine gC_re h8 (fun k v hk hm hv => match k, hk, hm, hv with
        | 0, _, hm, hv => gl_at rfl (rK_R (by decide) _ _ (hv _ rfl))
        | 1, _, hm, hv => gl_at rfl (rK_R (by decide) _ _ (hv _ rfl))
        | 2, _, hm, hv => gl_at rfl (rK_R (by decide) _ _ (hv _ rfl))
        | 3, _, hm, hv => gl_at rfl (rK_R (by decide) _ _ (hv _ rfl))
        | 4, _, hm, hv => gl_at rfl (rK_R (by decide) _ _ (hv _ rfl))
        | 5, _, hm, hv => gl_at rfl (rK_R (by decide) _ _ (hv _ rfl))
        | 6, _, hm, hv => gl_at rfl (rK_R (by decide) _ _ (hv _ rfl))
        | 7, _, hm, hv => gl_at rfl (by obtain rfl := Option.some.inj (hm.symm.trans hB.2.2.2.2.2.1); exact ⟨_, rfl, (zmp_2 ar_sp (by decide))⟩)
        | 8, _, hm, hv => gl_at rfl (by obtain rfl := Option.some.inj (hm.symm.trans ((hB.2.1.fld (zmp_s ar_bd (by decide)) skc_166 (k := 8) (by decide) (by decide)).trans am_po)); exact ⟨_, rfl, (zmp_2 ar_po (by decide))⟩)
        | 9, _, hm, hv => gl_at rfl (by obtain rfl := Option.some.inj (hm.symm.trans hB.2.2.2.2.2.2.1); exact ⟨_, rfl, (zmp_2 ar_lw (by decide))⟩)
        | 10, _, hm, hv => gl_at rfl (hv _ rfl)
        | 11, _, hm, hv => gl_at rfl (hv _ rfl)
        | 12, _, hm, hv => gl_at rfl (hv _ rfl)
        | 13, _, hm, hv => gl_at rfl (hv _ rfl)
        | 14, _, hm, hv => gl_at rfl (by obtain rfl := Option.some.inj (hm.symm.trans ((hB.2.1.fld (zmp_s ar_bd (by decide)) skc_166 (k := 14) (by decide) (by decide)).trans am_s9)); exact hs9)
        | 15, _, hm, hv => gl_at rfl (hv _ rfl)
        | 16, _, hm, hv => gl_at rfl (hv _ rfl)
        | 17, _, hm, hv => gl_at rfl (hv _ rfl)
        | k + 18, hk, _, _ => absurd hk (by omega))) (fun a u ha hu => by
      obtain ⟨t9, h1, h2⟩ := zmp_e ha
      obtain rfl : t9 = 14 := (fun u h => (by decide : ∀ z ∈ ZL_s1, z.2 = 167 → z.1 = 14) (u, 167) (zt_m (L := ZL_s1) h) rfl) t9 h2
      obtain rfl : a = x := hb14 a h1
      obtain rfl : 14 = u := Option.some.inj ((show zt_rF 167 = some 14 from by decide).symm.trans hu)
      have h8 := hB.1 _ _ ha
      rw [shc_167] at h8
      rw [shc_14]
      refine gC_re h8 (fun k v hk hm hv => match k, hk, hm, hv with
        | 0, _, hm, hv => gl_at rfl (rK_R (by decide) _ _ (hv _ rfl))
        | 1, _, hm, hv => gl_at rfl (rK_R (by decide) _ _ (hv _ rfl))
        | 2, _, hm, hv => gl_at rfl (rK_R (by decide) _ _ (hv _ rfl))
        | 3, _, hm, hv => gl_at rfl (rK_R (by decide) _ _ (hv _ rfl))
        | 4, _, hm, hv => gl_at rfl (rK_R (by decide) _ _ (hv _ rfl))
        | 5, _, hm, hv => gl_at rfl (rK_R (by decide) _ _ (hv _ rfl))
        | 6, _, hm, hv => gl_at rfl (rK_N (by decide) _ _ (hv _ rfl))
        | 7, _, hm, hv => gl_at rfl (hv _ rfl)
        | 8, _, hm, hv => gl_at rfl (by obtain rfl := Option.some.inj (hm.symm.trans ((hB.2.1.fld (zmp_s hx (by decide)) skc_167 (k := 8) (by decide) (by decide)).trans am_c9)); exact hc9)
        | k + 9, hk, _, _ => absurd hk (by omega)))
    rw [foZ_1 hb0 y1]; exact ⟨⟨r, (c1, a1), e1, ⟨by omega, (by show c1.toInt = _; omega), fun h9 => (by show a1.toInt = _; omega)⟩, ⟨(zmp zt_rF (zmp zt_s1 G)), nC, nS, bo, wa, wc, hT2, (zmp_2 hx (by decide)), (zmp_2 hou (by decide)), hgC, hgS, (fun b h => hb3 b (zmp_b h (fun u h => (by decide : ∀ z ∈ ZL_rF, z.2 = 3 → z.1 = 166) (u, 3) (zt_m (L := ZL_rF) h) rfl) (fun u h => (by decide : ∀ z ∈ ZL_s1, z.2 = 166 → z.1 = 3) (u, 166) (zt_m (L := ZL_s1) h) rfl))), (fun b h => hb51 b (zmp_b h (fun u h => (by decide : ∀ z ∈ ZL_rF, z.2 = 51 → z.1 = 51) (u, 51) (zt_m (L := ZL_rF) h) rfl) (fun u h => (by decide : ∀ z ∈ ZL_s1, z.2 = 51 → z.1 = 51) (u, 51) (zt_m (L := ZL_s1) h) rfl))), (fun b h => hb14 b (zmp_b h (fun u h => (by decide : ∀ z ∈ ZL_rF, z.2 = 14 → z.1 = 167) (u, 14) (zt_m (L := ZL_rF) h) rfl) (fun u h => (by decide : ∀ z ∈ ZL_s1, z.2 = 167 → z.1 = 14) (u, 167) (zt_m (L := ZL_s1) h) rfl))), (fun b h => hb17 b (zmp_b h (fun u h => (by decide : ∀ z ∈ ZL_rF, z.2 = 17 → z.1 = 17) (u, 17) (zt_m (L := ZL_rF) h) rfl) (fun u h => (by decide : ∀ z ∈ ZL_s1, z.2 = 17 → z.1 = 17) (u, 17) (zt_m (L := ZL_s1) h) rfl))), (fun a t h => by obtain ⟨u, h1, -⟩ := zmp_e h; exact hps a u h1), hX1.kept hx (fun a t h h9 => zmp_2 h ((by decide : ∀ t ∈ FT12, (zt_s1 t).bind zt_rF = some t) t (of_decide_eq_true h9))) (fun b hb => (hB.2.1.fld (zmp_s hb (by decide)) skc_166 (k := 1) (by decide) (by decide))) (fun b hb => (hB.2.1.fld (zmp_s hb (by decide)) skc_166 (k := 2) (by decide) (by decide))) (fun b hb => (hB.2.1.fld (zmp_s hb (by decide)) skc_166 (k := 16) (by decide) (by decide))) (fun b hb => (hB.2.1.fld (zmp_s hb (by decide)) skc_5 (k := 0) (by decide) (by decide))) (fun b hb => (hB.2.1.fld (zmp_s hb (by decide)) skc_6 (k := 1) (by decide) (by decide))) (fun b hb => (hB.2.1.fld (zmp_s hb (by decide)) skc_6 (k := 4) (by decide) (by decide))) (fun b hb => (hB.2.1.fld (zmp_s hb (by decide)) skc_167 (k := 1) (by decide) (by decide))) (fun b hb => (hB.2.1.fld (zmp_s hb (by decide)) skc_167 (k := 3) (by decide) (by decide))) (fun b hb => (hB.2.1.fld (zmp_s hb (by decide)) skc_167 (k := 6) (by decide) (by decide))) (fun b hb => (hB.2.1.fld (zmp_s hb (by decide)) skc_90 (k := 1) (by decide) (by decide))) (fun b hb => (hB.2.1.fld (zmp_s hb (by decide)) skc_90 (k := 4) (by decide) (by decide))) (fun b hb => (hB.2.1.fld (zmp_s hb (by decide)) skc_93 (k := 0) (by decide) (by decide))) (fun b hb => (hB.2.1.arr (zmp_s hb (by decide)) skc_25 (by decide))) (fun b hb => (hB.2.1.arr (zmp_s hb (by decide)) skc_52 (by decide))) (fun b hb => (hB.2.1.arr (zmp_s hb (by decide)) skc_53 (by decide))) (fun b hb => (hB.2.1.arr (zmp_s hb (by decide)) skc_77 (by decide))), ⟨ta_2, bd, 0, fvG g.2.1, g.2.1.2.2.2, g.2.1.2.1, hB.2.2.2.1, (hB.2.1.fld (zmp_s hx (by decide)) skc_167 (k := 0) (by decide) (by decide)).trans am_ta_2, (zmp_2 ar_ta_2 (by decide)), ac_vc_2.kept (hB.2.1.arr (zmp_s ar_ta_2 (by decide)) skc_16 (by decide)), (hB.2.1.fld (zmp_s hx (by decide)) skc_167 (k := 3) (by decide) (by decide)).trans am_bd_2, (zmp_2 ar_bd_2 (by decide)), hB.2.2.1, (hB.2.1.fld (zmp_s ar_bd_2 (by decide)) skc_166 (k := 11) (by decide) (by decide)).trans am_vo_2, rfl, rfl, rfl, rfl, pP.fo⟩, ⟨bd, hd9, sA, fo1, kn9, sf9, st9, sp9, hl, l1, yv, dv, vh, vK1, vF1, vE1, vS1, (hB.2.1.fld (zmp_s hx (by decide)) skc_167 (k := 3) (by decide) (by decide)).trans am_bd, (zmp_2 ar_bd (by decide)), (hB.2.1.fld (zmp_s ar_bd (by decide)) skc_166 (k := 3) (by decide) (by decide)).trans am_hd9, (zmp_2 ar_hd9 (by decide)), ac_vh.kept (hB.2.1.arr (zmp_s ar_hd9 (by decide)) skc_54 (by decide)), (hB.2.1.fld (zmp_s ar_bd (by decide)) skc_166 (k := 0) (by decide) (by decide)).trans am_sA, (zmp_2 ar_sA (by decide)), (hB.2.1.fld (zmp_s ar_bd (by decide)) skc_166 (k := 15) (by decide) (by decide)).trans am_hl, (hB.2.1.fld (zmp_s ar_bd (by decide)) skc_166 (k := 12) (by decide) (by decide)).trans am_yv, (hB.2.1.fld (zmp_s ar_bd (by decide)) skc_166 (k := 13) (by decide) (by decide)).trans am_dv, hB.2.2.2.2.2.1, (zmp_2 ar_sp (by decide)), hB.2.2.2.2.1, (hB.2.1.fld (zmp_s ar_sp (by decide)) skc_152 (k := 2) (by decide) (by decide)).trans am_kn9, (zmp_2 ar_kn9 (by decide)), hB.2.2.2.2.2.2.2.1, (hB.2.1.fld (zmp_s ar_sp (by decide)) skc_152 (k := 7) (by decide) (by decide)).trans am_sf9, (zmp_2 ar_sf9 (by decide)), hB.2.2.2.2.2.2.2.2.1, (hB.2.1.fld (zmp_s ar_sp (by decide)) skc_152 (k := 8) (by decide) (by decide)).trans am_st9, (zmp_2 ar_st9 (by decide)), hB.2.2.2.2.2.2.2.2.2.1, (hB.2.1.fld (zmp_s ar_sp (by decide)) skc_152 (k := 9) (by decide) (by decide)).trans am_sp9, (zmp_2 ar_sp9 (by decide)), hB.2.2.2.2.2.2.2.2.2.2.1, ⟨pn, pct, Or.inl ⟨hb0, z1, by show (((foA g).length : Nat) : Int) = l1.toInt; rw [show (foA g).length = l1.toNatClampNeg from ze.2.1]; exact tn_of rfl hl0, by show (foA g).length ≤ 20; have e9 : (foA g).length = l1.toNatClampNeg := ze.2.1; have := tn_of (i := l1) rfl hl0; omega, ze.2.2, zok_q ze.1, z6, z7⟩⟩, (fun h9 => (hS h9).kept hT hgS ar_sA (fun b hb => (hB.2.1.arr (zmp_s hb (by decide)) skc_51 (by decide))) (fun b hb => (hB.2.1.fld (zmp_s hb (by decide)) skc_10 (k := 7) (by decide) (by decide))) (fun b hb => (hB.2.1.fld (zmp_s hb (by decide)) skc_10 (k := 8) (by decide) (by decide))) (fun b hb => (hB.2.1.fld (zmp_s hb (by decide)) skc_10 (k := 9) (by decide) (by decide))) (fun b hb => (hB.2.1.fld (zmp_s hb (by decide)) skc_10 (k := 0) (by decide) (by decide))) (fun b hb => (hB.2.1.fld (zmp_s hb (by decide)) skc_10 (k := 1) (by decide) (by decide))) (fun b hb => (hB.2.1.fld (zmp_s hb (by decide)) skc_10 (k := 6) (by decide) (by decide))) (fun b hb => (hB.2.1.fld (zmp_s hb (by decide)) skc_10 (k := 2) (by decide) (by decide))) (fun b hb => (hB.2.1.fld (zmp_s hb (by decide)) skc_10 (k := 3) (by decide) (by decide))) (fun b hb => (hB.2.1.fld (zmp_s hb (by decide)) skc_10 (k := 4) (by decide) (by decide))))⟩⟩, hB.2.2.2.2.2.2.2.2.2.2.2⟩, hF.sub hAs⟩
  · rw [foZ_0 (Or.inr y1)]
    obtain ⟨_, am_s9, h9⟩ := gH_fld hT ar_bd shc_3 (k := 14) (by decide); have hs9 := h9 _ rfl; obtain ⟨_, am_c9, h9⟩ := gH_fld hT hx shc_14 (k := 8) (by decide); have hc9 := h9 _ rfl
    have hT2 : gH (dC, dI) kA (SHc nC nS) (zmp zt_r0 (zmp zt_s1 G)) t.heap := gH_un (f := zt_r0) (b := 166) (c := 167) hB.1 rs_r0 (fun a u ha hu => by
      obtain ⟨t9, h1, h2⟩ := zmp_e ha
      obtain rfl : t9 = 3 := (fun u h => (by decide : ∀ z ∈ ZL_s1, z.2 = 166 → z.1 = 3) (u, 166) (zt_m (L := ZL_s1) h) rfl) t9 h2
      obtain rfl : a = bd := (hb3 a h1).trans (hb3 bd ar_bd).symm
      obtain rfl : 3 = u := Option.some.inj ((show zt_r0 166 = some 3 from by decide).symm.trans hu)
      have h8 := hB.1 _ _ ha
      rw [shc_166] at h8
      rw [shc_3]
      refine gC_re h8 (fun k v hk hm hv => match k, hk, hm, hv with
        | 0, _, hm, hv => gl_at rfl (rK_R (by decide) _ _ (hv _ rfl))
        | 1, _, hm, hv => gl_at rfl (rK_R (by decide) _ _ (hv _ rfl))
        | 2, _, hm, hv => gl_at rfl (rK_R (by decide) _ _ (hv _ rfl))
        | 3, _, hm, hv => gl_at rfl (rK_R (by decide) _ _ (hv _ rfl))
        | 4, _, hm, hv => gl_at rfl (rK_R (by decide) _ _ (hv _ rfl))
        | 5, _, hm, hv => gl_at rfl (rK_R (by decide) _ _ (hv _ rfl))
        | 6, _, hm, hv => gl_at rfl (rK_R (by decide) _ _ (hv _ rfl))
        | 7, _, hm, hv => gl_at rfl (by obtain rfl := Option.some.inj (hm.symm.trans hB.2.2.2.2.2.1); exact ⟨_, rfl, (zmp_2 ar_lw (by decide))⟩)
        | 8, _, hm, hv => gl_at rfl (by obtain rfl := Option.some.inj (hm.symm.trans ((hB.2.1.fld (zmp_s ar_bd (by decide)) skc_166 (k := 8) (by decide) (by decide)).trans am_po)); exact ⟨_, rfl, (zmp_2 ar_po (by decide))⟩)
        | 9, _, hm, hv => gl_at rfl (by obtain rfl := Option.some.inj (hm.symm.trans hB.2.2.2.2.2.2.1); exact ⟨_, rfl, (zmp_2 ar_sp (by decide))⟩)
        | 10, _, hm, hv => gl_at rfl (hv _ rfl)
        | 11, _, hm, hv => gl_at rfl (hv _ rfl)
        | 12, _, hm, hv => gl_at rfl (hv _ rfl)
        | 13, _, hm, hv => gl_at rfl (hv _ rfl)
        | 14, _, hm, hv => gl_at rfl (by obtain rfl := Option.some.inj (hm.symm.trans ((hB.2.1.fld (zmp_s ar_bd (by decide)) skc_166 (k := 14) (by decide) (by decide)).trans am_s9)); exact hs9)
        | 15, _, hm, hv => gl_at rfl (hv _ rfl)
        | 16, _, hm, hv => gl_at rfl (hv _ rfl)
        | 17, _, hm, hv => gl_at rfl (hv _ rfl)
        | k + 18, hk, _, _ => absurd hk (by omega))) (fun a u ha hu => by
      obtain ⟨t9, h1, h2⟩ := zmp_e ha
      obtain rfl : t9 = 14 := (fun u h => (by decide : ∀ z ∈ ZL_s1, z.2 = 167 → z.1 = 14) (u, 167) (zt_m (L := ZL_s1) h) rfl) t9 h2
      obtain rfl : a = x := hb14 a h1
      obtain rfl : 14 = u := Option.some.inj ((show zt_r0 167 = some 14 from by decide).symm.trans hu)
      have h8 := hB.1 _ _ ha
      rw [shc_167] at h8
      rw [shc_14]
      refine gC_re h8 (fun k v hk hm hv => match k, hk, hm, hv with
        | 0, _, hm, hv => gl_at rfl (rK_R (by decide) _ _ (hv _ rfl))
        | 1, _, hm, hv => gl_at rfl (rK_R (by decide) _ _ (hv _ rfl))
        | 2, _, hm, hv => gl_at rfl (rK_R (by decide) _ _ (hv _ rfl))
        | 3, _, hm, hv => gl_at rfl (rK_R (by decide) _ _ (hv _ rfl))
        | 4, _, hm, hv => gl_at rfl (rK_R (by decide) _ _ (hv _ rfl))
        | 5, _, hm, hv => gl_at rfl (rK_R (by decide) _ _ (hv _ rfl))
        | 6, _, hm, hv => gl_at rfl (rK_N (by decide) _ _ (hv _ rfl))
        | 7, _, hm, hv => gl_at rfl (hv _ rfl)
        | 8, _, hm, hv => gl_at rfl (by obtain rfl := Option.some.inj (hm.symm.trans ((hB.2.1.fld (zmp_s hx (by decide)) skc_167 (k := 8) (by decide) (by decide)).trans am_c9)); exact hc9)
        | k + 9, hk, _, _ => absurd hk (by omega)))
    have hh9 : foK g = 1 := (by omega)
    exact ⟨⟨r, (c1, a1), e1, ⟨by omega, (by show c1.toInt = _; omega), fun h9 => (by show a1.toInt = _; omega)⟩, ⟨(zmp zt_r0 (zmp zt_s1 G)), nC, nS, bo, wa, wc, hT2, (zmp_2 hx (by decide)), (zmp_2 hou (by decide)), hgC, hgS, (fun b h => hb3 b (zmp_b h (fun u h => (by decide : ∀ z ∈ ZL_r0, z.2 = 3 → z.1 = 166) (u, 3) (zt_m (L := ZL_r0) h) rfl) (fun u h => (by decide : ∀ z ∈ ZL_s1, z.2 = 166 → z.1 = 3) (u, 166) (zt_m (L := ZL_s1) h) rfl))), (fun b h => hb51 b (zmp_b h (fun u h => (by decide : ∀ z ∈ ZL_r0, z.2 = 51 → z.1 = 51) (u, 51) (zt_m (L := ZL_r0) h) rfl) (fun u h => (by decide : ∀ z ∈ ZL_s1, z.2 = 51 → z.1 = 51) (u, 51) (zt_m (L := ZL_s1) h) rfl))), (fun b h => hb14 b (zmp_b h (fun u h => (by decide : ∀ z ∈ ZL_r0, z.2 = 14 → z.1 = 167) (u, 14) (zt_m (L := ZL_r0) h) rfl) (fun u h => (by decide : ∀ z ∈ ZL_s1, z.2 = 167 → z.1 = 14) (u, 167) (zt_m (L := ZL_s1) h) rfl))), (fun b h => hb17 b (zmp_b h (fun u h => (by decide : ∀ z ∈ ZL_r0, z.2 = 17 → z.1 = 17) (u, 17) (zt_m (L := ZL_r0) h) rfl) (fun u h => (by decide : ∀ z ∈ ZL_s1, z.2 = 17 → z.1 = 17) (u, 17) (zt_m (L := ZL_s1) h) rfl))), (fun a t h => by obtain ⟨u, h1, -⟩ := zmp_e h; exact hps a u h1), hX1.kept hx (fun a t h h9 => zmp_2 h ((by decide : ∀ t ∈ FT12, (zt_s1 t).bind zt_r0 = some t) t (of_decide_eq_true h9))) (fun b hb => (hB.2.1.fld (zmp_s hb (by decide)) skc_166 (k := 1) (by decide) (by decide))) (fun b hb => (hB.2.1.fld (zmp_s hb (by decide)) skc_166 (k := 2) (by decide) (by decide))) (fun b hb => (hB.2.1.fld (zmp_s hb (by decide)) skc_166 (k := 16) (by decide) (by decide))) (fun b hb => (hB.2.1.fld (zmp_s hb (by decide)) skc_5 (k := 0) (by decide) (by decide))) (fun b hb => (hB.2.1.fld (zmp_s hb (by decide)) skc_6 (k := 1) (by decide) (by decide))) (fun b hb => (hB.2.1.fld (zmp_s hb (by decide)) skc_6 (k := 4) (by decide) (by decide))) (fun b hb => (hB.2.1.fld (zmp_s hb (by decide)) skc_167 (k := 1) (by decide) (by decide))) (fun b hb => (hB.2.1.fld (zmp_s hb (by decide)) skc_167 (k := 3) (by decide) (by decide))) (fun b hb => (hB.2.1.fld (zmp_s hb (by decide)) skc_167 (k := 6) (by decide) (by decide))) (fun b hb => (hB.2.1.fld (zmp_s hb (by decide)) skc_90 (k := 1) (by decide) (by decide))) (fun b hb => (hB.2.1.fld (zmp_s hb (by decide)) skc_90 (k := 4) (by decide) (by decide))) (fun b hb => (hB.2.1.fld (zmp_s hb (by decide)) skc_93 (k := 0) (by decide) (by decide))) (fun b hb => (hB.2.1.arr (zmp_s hb (by decide)) skc_25 (by decide))) (fun b hb => (hB.2.1.arr (zmp_s hb (by decide)) skc_52 (by decide))) (fun b hb => (hB.2.1.arr (zmp_s hb (by decide)) skc_53 (by decide))) (fun b hb => (hB.2.1.arr (zmp_s hb (by decide)) skc_77 (by decide))), ⟨ta_2, bd, 0, fvG g.2.1, g.2.1.2.2.2, g.2.1.2.1, hB.2.2.2.1, (hB.2.1.fld (zmp_s hx (by decide)) skc_167 (k := 0) (by decide) (by decide)).trans am_ta_2, (zmp_2 ar_ta_2 (by decide)), ac_vc_2.kept (hB.2.1.arr (zmp_s ar_ta_2 (by decide)) skc_16 (by decide)), (hB.2.1.fld (zmp_s hx (by decide)) skc_167 (k := 3) (by decide) (by decide)).trans am_bd_2, (zmp_2 ar_bd_2 (by decide)), hB.2.2.1, (hB.2.1.fld (zmp_s ar_bd_2 (by decide)) skc_166 (k := 11) (by decide) (by decide)).trans am_vo_2, rfl, rfl, rfl, rfl, pP.fo⟩, ⟨bd, hd9, sA, fo1, kn, sf, sto, stp9, hl, ln, yv, dv, vh, vK, vF, vT, vS, (hB.2.1.fld (zmp_s hx (by decide)) skc_167 (k := 3) (by decide) (by decide)).trans am_bd, (zmp_2 ar_bd (by decide)), (hB.2.1.fld (zmp_s ar_bd (by decide)) skc_166 (k := 3) (by decide) (by decide)).trans am_hd9, (zmp_2 ar_hd9 (by decide)), ac_vh.kept (hB.2.1.arr (zmp_s ar_hd9 (by decide)) skc_54 (by decide)), (hB.2.1.fld (zmp_s ar_bd (by decide)) skc_166 (k := 0) (by decide) (by decide)).trans am_sA, (zmp_2 ar_sA (by decide)), (hB.2.1.fld (zmp_s ar_bd (by decide)) skc_166 (k := 15) (by decide) (by decide)).trans am_hl, (hB.2.1.fld (zmp_s ar_bd (by decide)) skc_166 (k := 12) (by decide) (by decide)).trans am_yv, (hB.2.1.fld (zmp_s ar_bd (by decide)) skc_166 (k := 13) (by decide) (by decide)).trans am_dv, hB.2.2.2.2.2.1, (zmp_2 ar_lw (by decide)), (hB.2.1.fld (zmp_s ar_lw (by decide)) skc_7 (k := 11) (by decide) (by decide)).trans am_ln, (hB.2.1.fld (zmp_s ar_lw (by decide)) skc_7 (k := 2) (by decide) (by decide)).trans am_kn, (zmp_2 ar_kn (by decide)), ac_vK.kept (hB.2.1.arr (zmp_s ar_kn (by decide)) skc_42 (by decide)), (hB.2.1.fld (zmp_s ar_lw (by decide)) skc_7 (k := 7) (by decide) (by decide)).trans am_sf, (zmp_2 ar_sf (by decide)), ac_vF.kept (hB.2.1.arr (zmp_s ar_sf (by decide)) skc_47 (by decide)), (hB.2.1.fld (zmp_s ar_lw (by decide)) skc_7 (k := 8) (by decide) (by decide)).trans am_sto, (zmp_2 ar_sto (by decide)), ac_vT.kept (hB.2.1.arr (zmp_s ar_sto (by decide)) skc_48 (by decide)), (hB.2.1.fld (zmp_s ar_lw (by decide)) skc_7 (k := 9) (by decide) (by decide)).trans am_stp9, (zmp_2 ar_stp9 (by decide)), ac_vS.kept (hB.2.1.arr (zmp_s ar_stp9 (by decide)) skc_49 (by decide)), hP, (fun h9 => (hS h9).kept hT hgS ar_sA (fun b hb => (hB.2.1.arr (zmp_s hb (by decide)) skc_51 (by decide))) (fun b hb => (hB.2.1.fld (zmp_s hb (by decide)) skc_10 (k := 7) (by decide) (by decide))) (fun b hb => (hB.2.1.fld (zmp_s hb (by decide)) skc_10 (k := 8) (by decide) (by decide))) (fun b hb => (hB.2.1.fld (zmp_s hb (by decide)) skc_10 (k := 9) (by decide) (by decide))) (fun b hb => (hB.2.1.fld (zmp_s hb (by decide)) skc_10 (k := 0) (by decide) (by decide))) (fun b hb => (hB.2.1.fld (zmp_s hb (by decide)) skc_10 (k := 1) (by decide) (by decide))) (fun b hb => (hB.2.1.fld (zmp_s hb (by decide)) skc_10 (k := 6) (by decide) (by decide))) (fun b hb => (hB.2.1.fld (zmp_s hb (by decide)) skc_10 (k := 2) (by decide) (by decide))) (fun b hb => (hB.2.1.fld (zmp_s hb (by decide)) skc_10 (k := 3) (by decide) (by decide))) (fun b hb => (hB.2.1.fld (zmp_s hb (by decide)) skc_10 (k := 4) (by decide) (by decide))))⟩⟩, hB.2.2.2.2.2.2.2.2.2.2.2⟩, hF.sub hAs⟩
  · have hb1 : g.2.2.2.1 = 1 := (by rcases pz with h9 | h9; (have := h9.2.1; omega); exact h9.1)
    rw [foZ_0 (Or.inl (by omega))]
    obtain ⟨_, am_s9, h9⟩ := gH_fld hT ar_bd shc_3 (k := 14) (by decide); have hs9 := h9 _ rfl; obtain ⟨_, am_c9, h9⟩ := gH_fld hT hx shc_14 (k := 8) (by decide); have hc9 := h9 _ rfl
    have hT2 : gH (dC, dI) kA (SHc nC nS) (zmp zt_r0 (zmp zt_s1 G)) t.heap := gH_un (f := zt_r0) (b := 166) (c := 167) hB.1 rs_r0 (fun a u ha hu => by
      obtain ⟨t9, h1, h2⟩ := zmp_e ha
      obtain rfl : t9 = 3 := (fun u h => (by decide : ∀ z ∈ ZL_s1, z.2 = 166 → z.1 = 3) (u, 166) (zt_m (L := ZL_s1) h) rfl) t9 h2
      obtain rfl : a = bd := (hb3 a h1).trans (hb3 bd ar_bd).symm
      obtain rfl : 3 = u := Option.some.inj ((show zt_r0 166 = some 3 from by decide).symm.trans hu)
      have h8 := hB.1 _ _ ha
      rw [shc_166] at h8
      rw [shc_3]
      refine gC_re h8 (fun k v hk hm hv => match k, hk, hm, hv with
        | 0, _, hm, hv => gl_at rfl (rK_R (by decide) _ _ (hv _ rfl))
        | 1, _, hm, hv => gl_at rfl (rK_R (by decide) _ _ (hv _ rfl))
        | 2, _, hm, hv => gl_at rfl (rK_R (by decide) _ _ (hv _ rfl))
        | 3, _, hm, hv => gl_at rfl (rK_R (by decide) _ _ (hv _ rfl))
        | 4, _, hm, hv => gl_at rfl (rK_R (by decide) _ _ (hv _ rfl))
        | 5, _, hm, hv => gl_at rfl (rK_R (by decide) _ _ (hv _ rfl))
        | 6, _, hm, hv => gl_at rfl (rK_R (by decide) _ _ (hv _ rfl))
        | 7, _, hm, hv => gl_at rfl (by obtain rfl := Option.some.inj (hm.symm.trans hB.2.2.2.2.2.1); exact ⟨_, rfl, (zmp_2 ar_lw (by decide))⟩)
        | 8, _, hm, hv => gl_at rfl (by obtain rfl := Option.some.inj (hm.symm.trans ((hB.2.1.fld (zmp_s ar_bd (by decide)) skc_166 (k := 8) (by decide) (by decide)).trans am_po)); exact ⟨_, rfl, (zmp_2 ar_po (by decide))⟩)
        | 9, _, hm, hv => gl_at rfl (by obtain rfl := Option.some.inj (hm.symm.trans hB.2.2.2.2.2.2.1); exact ⟨_, rfl, (zmp_2 ar_sp (by decide))⟩)
        | 10, _, hm, hv => gl_at rfl (hv _ rfl)
        | 11, _, hm, hv => gl_at rfl (hv _ rfl)
        | 12, _, hm, hv => gl_at rfl (hv _ rfl)
        | 13, _, hm, hv => gl_at rfl (hv _ rfl)
        | 14, _, hm, hv => gl_at rfl (by obtain rfl := Option.some.inj (hm.symm.trans ((hB.2.1.fld (zmp_s ar_bd (by decide)) skc_166 (k := 14) (by decide) (by decide)).trans am_s9)); exact hs9)
        | 15, _, hm, hv => gl_at rfl (hv _ rfl)
        | 16, _, hm, hv => gl_at rfl (hv _ rfl)
        | 17, _, hm, hv => gl_at rfl (hv _ rfl)
        | k + 18, hk, _, _ => absurd hk (by omega))) (fun a u ha hu => by
      obtain ⟨t9, h1, h2⟩ := zmp_e ha
      obtain rfl : t9 = 14 := (fun u h => (by decide : ∀ z ∈ ZL_s1, z.2 = 167 → z.1 = 14) (u, 167) (zt_m (L := ZL_s1) h) rfl) t9 h2
      obtain rfl : a = x := hb14 a h1
      obtain rfl : 14 = u := Option.some.inj ((show zt_r0 167 = some 14 from by decide).symm.trans hu)
      have h8 := hB.1 _ _ ha
      rw [shc_167] at h8
      rw [shc_14]
      refine gC_re h8 (fun k v hk hm hv => match k, hk, hm, hv with
        | 0, _, hm, hv => gl_at rfl (rK_R (by decide) _ _ (hv _ rfl))
        | 1, _, hm, hv => gl_at rfl (rK_R (by decide) _ _ (hv _ rfl))
        | 2, _, hm, hv => gl_at rfl (rK_R (by decide) _ _ (hv _ rfl))
        | 3, _, hm, hv => gl_at rfl (rK_R (by decide) _ _ (hv _ rfl))
        | 4, _, hm, hv => gl_at rfl (rK_R (by decide) _ _ (hv _ rfl))
        | 5, _, hm, hv => gl_at rfl (rK_R (by decide) _ _ (hv _ rfl))
        | 6, _, hm, hv => gl_at rfl (rK_N (by decide) _ _ (hv _ rfl))
        | 7, _, hm, hv => gl_at rfl (hv _ rfl)
        | 8, _, hm, hv => gl_at rfl (by obtain rfl := Option.some.inj (hm.symm.trans ((hB.2.1.fld (zmp_s hx (by decide)) skc_167 (k := 8) (by decide) (by decide)).trans am_c9)); exact hc9)
        | k + 9, hk, _, _ => absurd hk (by omega)))
    have hh9 : foK g = 2 := (by omega)
    exact ⟨⟨r, (c1, a1), e1, ⟨by omega, (by show c1.toInt = _; omega), fun h9 => (by show a1.toInt = _; omega)⟩, ⟨(zmp zt_r0 (zmp zt_s1 G)), nC, nS, bo, wa, wc, hT2, (zmp_2 hx (by decide)), (zmp_2 hou (by decide)), hgC, hgS, (fun b h => hb3 b (zmp_b h (fun u h => (by decide : ∀ z ∈ ZL_r0, z.2 = 3 → z.1 = 166) (u, 3) (zt_m (L := ZL_r0) h) rfl) (fun u h => (by decide : ∀ z ∈ ZL_s1, z.2 = 166 → z.1 = 3) (u, 166) (zt_m (L := ZL_s1) h) rfl))), (fun b h => hb51 b (zmp_b h (fun u h => (by decide : ∀ z ∈ ZL_r0, z.2 = 51 → z.1 = 51) (u, 51) (zt_m (L := ZL_r0) h) rfl) (fun u h => (by decide : ∀ z ∈ ZL_s1, z.2 = 51 → z.1 = 51) (u, 51) (zt_m (L := ZL_s1) h) rfl))), (fun b h => hb14 b (zmp_b h (fun u h => (by decide : ∀ z ∈ ZL_r0, z.2 = 14 → z.1 = 167) (u, 14) (zt_m (L := ZL_r0) h) rfl) (fun u h => (by decide : ∀ z ∈ ZL_s1, z.2 = 167 → z.1 = 14) (u, 167) (zt_m (L := ZL_s1) h) rfl))), (fun b h => hb17 b (zmp_b h (fun u h => (by decide : ∀ z ∈ ZL_r0, z.2 = 17 → z.1 = 17) (u, 17) (zt_m (L := ZL_r0) h) rfl) (fun u h => (by decide : ∀ z ∈ ZL_s1, z.2 = 17 → z.1 = 17) (u, 17) (zt_m (L := ZL_s1) h) rfl))), (fun a t h => by obtain ⟨u, h1, -⟩ := zmp_e h; exact hps a u h1), hX1.kept hx (fun a t h h9 => zmp_2 h ((by decide : ∀ t ∈ FT12, (zt_s1 t).bind zt_r0 = some t) t (of_decide_eq_true h9))) (fun b hb => (hB.2.1.fld (zmp_s hb (by decide)) skc_166 (k := 1) (by decide) (by decide))) (fun b hb => (hB.2.1.fld (zmp_s hb (by decide)) skc_166 (k := 2) (by decide) (by decide))) (fun b hb => (hB.2.1.fld (zmp_s hb (by decide)) skc_166 (k := 16) (by decide) (by decide))) (fun b hb => (hB.2.1.fld (zmp_s hb (by decide)) skc_5 (k := 0) (by decide) (by decide))) (fun b hb => (hB.2.1.fld (zmp_s hb (by decide)) skc_6 (k := 1) (by decide) (by decide))) (fun b hb => (hB.2.1.fld (zmp_s hb (by decide)) skc_6 (k := 4) (by decide) (by decide))) (fun b hb => (hB.2.1.fld (zmp_s hb (by decide)) skc_167 (k := 1) (by decide) (by decide))) (fun b hb => (hB.2.1.fld (zmp_s hb (by decide)) skc_167 (k := 3) (by decide) (by decide))) (fun b hb => (hB.2.1.fld (zmp_s hb (by decide)) skc_167 (k := 6) (by decide) (by decide))) (fun b hb => (hB.2.1.fld (zmp_s hb (by decide)) skc_90 (k := 1) (by decide) (by decide))) (fun b hb => (hB.2.1.fld (zmp_s hb (by decide)) skc_90 (k := 4) (by decide) (by decide))) (fun b hb => (hB.2.1.fld (zmp_s hb (by decide)) skc_93 (k := 0) (by decide) (by decide))) (fun b hb => (hB.2.1.arr (zmp_s hb (by decide)) skc_25 (by decide))) (fun b hb => (hB.2.1.arr (zmp_s hb (by decide)) skc_52 (by decide))) (fun b hb => (hB.2.1.arr (zmp_s hb (by decide)) skc_53 (by decide))) (fun b hb => (hB.2.1.arr (zmp_s hb (by decide)) skc_77 (by decide))), ⟨ta_2, bd, 0, fvG g.2.1, g.2.1.2.2.2, g.2.1.2.1, hB.2.2.2.1, (hB.2.1.fld (zmp_s hx (by decide)) skc_167 (k := 0) (by decide) (by decide)).trans am_ta_2, (zmp_2 ar_ta_2 (by decide)), ac_vc_2.kept (hB.2.1.arr (zmp_s ar_ta_2 (by decide)) skc_16 (by decide)), (hB.2.1.fld (zmp_s hx (by decide)) skc_167 (k := 3) (by decide) (by decide)).trans am_bd_2, (zmp_2 ar_bd_2 (by decide)), hB.2.2.1, (hB.2.1.fld (zmp_s ar_bd_2 (by decide)) skc_166 (k := 11) (by decide) (by decide)).trans am_vo_2, rfl, rfl, rfl, rfl, pP.fo⟩, ⟨bd, hd9, sA, fo1, kn, sf, sto, stp9, hl, ln, yv, dv, vh, vK, vF, vT, vS, (hB.2.1.fld (zmp_s hx (by decide)) skc_167 (k := 3) (by decide) (by decide)).trans am_bd, (zmp_2 ar_bd (by decide)), (hB.2.1.fld (zmp_s ar_bd (by decide)) skc_166 (k := 3) (by decide) (by decide)).trans am_hd9, (zmp_2 ar_hd9 (by decide)), ac_vh.kept (hB.2.1.arr (zmp_s ar_hd9 (by decide)) skc_54 (by decide)), (hB.2.1.fld (zmp_s ar_bd (by decide)) skc_166 (k := 0) (by decide) (by decide)).trans am_sA, (zmp_2 ar_sA (by decide)), (hB.2.1.fld (zmp_s ar_bd (by decide)) skc_166 (k := 15) (by decide) (by decide)).trans am_hl, (hB.2.1.fld (zmp_s ar_bd (by decide)) skc_166 (k := 12) (by decide) (by decide)).trans am_yv, (hB.2.1.fld (zmp_s ar_bd (by decide)) skc_166 (k := 13) (by decide) (by decide)).trans am_dv, hB.2.2.2.2.2.1, (zmp_2 ar_lw (by decide)), (hB.2.1.fld (zmp_s ar_lw (by decide)) skc_7 (k := 11) (by decide) (by decide)).trans am_ln, (hB.2.1.fld (zmp_s ar_lw (by decide)) skc_7 (k := 2) (by decide) (by decide)).trans am_kn, (zmp_2 ar_kn (by decide)), ac_vK.kept (hB.2.1.arr (zmp_s ar_kn (by decide)) skc_42 (by decide)), (hB.2.1.fld (zmp_s ar_lw (by decide)) skc_7 (k := 7) (by decide) (by decide)).trans am_sf, (zmp_2 ar_sf (by decide)), ac_vF.kept (hB.2.1.arr (zmp_s ar_sf (by decide)) skc_47 (by decide)), (hB.2.1.fld (zmp_s ar_lw (by decide)) skc_7 (k := 8) (by decide) (by decide)).trans am_sto, (zmp_2 ar_sto (by decide)), ac_vT.kept (hB.2.1.arr (zmp_s ar_sto (by decide)) skc_48 (by decide)), (hB.2.1.fld (zmp_s ar_lw (by decide)) skc_7 (k := 9) (by decide) (by decide)).trans am_stp9, (zmp_2 ar_stp9 (by decide)), ac_vS.kept (hB.2.1.arr (zmp_s ar_stp9 (by decide)) skc_49 (by decide)), hP, (fun h9 => (hS h9).kept hT hgS ar_sA (fun b hb => (hB.2.1.arr (zmp_s hb (by decide)) skc_51 (by decide))) (fun b hb => (hB.2.1.fld (zmp_s hb (by decide)) skc_10 (k := 7) (by decide) (by decide))) (fun b hb => (hB.2.1.fld (zmp_s hb (by decide)) skc_10 (k := 8) (by decide) (by decide))) (fun b hb => (hB.2.1.fld (zmp_s hb (by decide)) skc_10 (k := 9) (by decide) (by decide))) (fun b hb => (hB.2.1.fld (zmp_s hb (by decide)) skc_10 (k := 0) (by decide) (by decide))) (fun b hb => (hB.2.1.fld (zmp_s hb (by decide)) skc_10 (k := 1) (by decide) (by decide))) (fun b hb => (hB.2.1.fld (zmp_s hb (by decide)) skc_10 (k := 6) (by decide) (by decide))) (fun b hb => (hB.2.1.fld (zmp_s hb (by decide)) skc_10 (k := 2) (by decide) (by decide))) (fun b hb => (hB.2.1.fld (zmp_s hb (by decide)) skc_10 (k := 3) (by decide) (by decide))) (fun b hb => (hB.2.1.fld (zmp_s hb (by decide)) skc_10 (k := 4) (by decide) (by decide))))⟩⟩, hB.2.2.2.2.2.2.2.2.2.2.2⟩, hF.sub hAs⟩
set_option maxHeartbeats 4000000 in
theorem k_propose (l : Launch) (hlt : l.stackTraces = false) (dC : Nat → ClassId) (dI : Nat → Nat → Nat) (kA : Nat → ClassId) (adK adV : Nat → Nat) (Pr : Nat → Prop) (H0 : Heap) (x ou : Nat)  {g : gz} (hPr : ∀ a, Pr a → a < H0.size) (hI : CJ dC dI kA Pr g x ou H0) : Met l yL_propose w_l_proposeZ ({ frames := 28, cells := 1, slots := 6, locals := 634 }) (va_Pc [.ref x, .ref ou] (fun U => U.heap = H0 ∧ va_K (dC, dI) vwCl (tyl kA) U ∧ EVC adK adV (fun q => ¬ Pr q) U U.heap ∧ NC U ∧ AO U)) (va_Qi (fun (r : Int32) (u : Unit) => True) (fun (u : Unit) (t : State) => CJ dC dI kA Pr (g.1, prF g.2.1, g.2.2) x ou t.heap) (fun q => ¬ Pr q)) 1 6 (fun q => ¬ Pr q) := by
  obtain ⟨G, nC, nS, bo, wa, wc, hT, hx, hou, hgC, hgS, hb3, hb51, hb14, hb17, hp9, hX1, hX2, hX3⟩ := hI
  have hA9 := gA_pr hPr hp9
  obtain ⟨bd, hd9, sA, lw, kn, sf, sto, stp9, hl, ln, yv, dv, vh, vK, vF, vT, vS, am_bd, ar_bd, am_hd9, ar_hd9, ac_vh, am_sA, ar_sA, am_hl, am_yv, am_dv, am_lw, ar_lw, am_ln, am_kn, ar_kn, ac_vK, am_sf, ar_sf, ac_vF, am_sto, ar_sto, ac_vT, am_stp9, ar_stp9, ac_vS, hP, hS⟩ := id hX3
  obtain ⟨pn, pct, pz⟩ := id hP
  obtain ⟨ta_2, bd_2, tn_2, fa_2, vo_2, vc_2, am_tn_2, am_ta_2, ar_ta_2, ac_vc_2, am_bd_2, ar_bd_2, am_fa_2, am_vo_2, hP_2⟩ := id hX2
  obtain ⟨pe0, pe1, pe2, pe3, pP⟩ := id hP_2
  obtain rfl : bd = bd_2 := ref_eq am_bd am_bd_2
  subst pe0 pe1 pe2 pe3
  obtain ⟨_, am_sp, h9⟩ := gH_fld hT ar_bd shc_3 (k := 9) (by decide)
  obtain ⟨sp, rfl, ar_sp⟩ := h9 _ rfl
  obtain ⟨_, am_po, h9⟩ := gH_fld hT ar_bd shc_3 (k := 8) (by decide)
  obtain ⟨po, rfl, ar_po⟩ := h9 _ rfl
  obtain ⟨_, am_kn9, h9⟩ := gH_fld hT ar_sp shc_152 (k := 2) (by decide)
  obtain ⟨kn9, rfl, ar_kn9⟩ := h9 _ rfl
  obtain ⟨vK9, ac_vK9, -⟩ := ct_of hT ar_kn9 shc_155
  obtain ⟨_, am_sf9, h9⟩ := gH_fld hT ar_sp shc_152 (k := 7) (by decide)
  obtain ⟨sf9, rfl, ar_sf9⟩ := h9 _ rfl
  obtain ⟨vF9, ac_vF9, -⟩ := ct_of hT ar_sf9 shc_160
  obtain ⟨_, am_st9, h9⟩ := gH_fld hT ar_sp shc_152 (k := 8) (by decide)
  obtain ⟨st9, rfl, ar_st9⟩ := h9 _ rfl
  obtain ⟨vE9, ac_vE9, -⟩ := ct_of hT ar_st9 shc_161
  obtain ⟨_, am_sp9, h9⟩ := gH_fld hT ar_sp shc_152 (k := 9) (by decide)
  obtain ⟨sp9, rfl, ar_sp9⟩ := h9 _ rfl
  obtain ⟨vS9, ac_vS9, -⟩ := ct_of hT ar_sp9 shc_162
  have hTs := gH_mp (f := zt_s1) hT (rs_s1 hgC hgS)
  have hps : ∀ a t, zmp zt_s1 G a = some t → ¬ Pr a := fun a t h => by obtain ⟨u, h1, -⟩ := zmp_e h; exact hp9 a u h1
  have hAs := gA_pr hPr hps
  obtain ⟨_, am_sd9, h9⟩ := gH_fld hT ar_bd shc_3 (k := 14) (by decide)
  obtain ⟨sd9, rfl, hd1, hd2⟩ := h9 _ rfl
  refine Met.weak (l_proposeZ (l := l) (hlt := hlt) (dC := dC) (dI := dI) (kA := kA) (adK := adK) (adV := adV) (G := (zmp zt_s1 G)) (H0 := H0) (nC := nC) (nS := nS) (o0 := x) (ou := ou) (bd := bd) (tn := g.2.1.1) (ta := ta_2) (sp := sp) (po := po) (vo := g.2.1.2.2.2) (yv := yv) (dv9 := dv) (sd9 := sd9) (kn9 := kn9) (sf9 := sf9) (st9 := st9) (sp9 := sp9) (vc := g.2.1.2.1) (vK := vK9) (vF := vF9) (vE := vE9) (vS := vS9) (N := g.2.1.1.toNatClampNeg) (fv := (fvG g.2.1)) (hT := hTs) (hr_o0 := (zmp_s hx (by decide))) (hr_ou := (zmp_s hou (by decide))) (hm_bd := am_bd) (hr_bd := (zmp_s ar_bd (by decide))) (hm_tn := am_tn_2) (hm_ta := am_ta_2) (hr_ta := (zmp_s ar_ta_2 (by decide))) (hm_sp := am_sp) (hr_sp := (zmp_s ar_sp (by decide))) (hm_po := am_po) (hr_po := (zmp_s ar_po (by decide))) (hm_vo := am_vo_2) (hm_yv := am_yv) (hm_dv9 := am_dv) (hm_sd9 := am_sd9) (hm_kn9 := am_kn9) (hr_kn9 := (zmp_s ar_kn9 (by decide))) (hm_sf9 := am_sf9) (hr_sf9 := (zmp_s ar_sf9 (by decide))) (hm_st9 := am_st9) (hr_st9 := (zmp_s ar_st9 (by decide))) (hm_sp9 := am_sp9) (hr_sp9 := (zmp_s ar_sp9 (by decide))) (hq0 := pP.1) (hq1 := pP.2) (hq2 := ⟨by omega, by omega⟩) (hc_vc := ac_vc_2) (hc_vK := ac_vK9) (hc_vF := ac_vF9) (hc_vE := ac_vE9) (hc_vS := ac_vS9) (hN := (tn_of rfl pP.1.1).symm) (hfv := rfl) (hsd := (by omega)) (hgC := hgC) (hgS := hgS)) (fun a U h => ⟨h.1, h.2.1, h.2.2.1, EVC.narrow h.2.2.2.1 hAs, h.2.2.2.2.1⟩) (fun a st oc t _ h => ?_) hAs
  obtain ⟨⟨r, ⟨f1, t1, v1, po1, sp1, y1, d1⟩, e1, hp, hB⟩, hF⟩ := h
  (try dsimp only at hp hB)
  obtain ⟨-, ⟨hp1, hp2⟩, hp3⟩ := hp
  have e3 : t1 = 0 := Int32.toInt_inj.mp (hp2.trans (by decide : (0 : Int) = (0 : Int32).toInt))
  have e4 : f1 = fvG g.2.1 := Int32.toInt_inj.mp hp1
  have hp5 : (r.toInt = 0 ∧ (laG g.2.1).2 = -1 ∧ g.2.1.2.2.2.toInt = 0 ∧ v1.toInt = 1 ∧ po1 = sp ∧ sp1 = po ∧ y1.toInt = 0 ∧ d1.toInt = 0) ∨ (r.toInt ≠ 0 ∧ ((laG g.2.1).2 ≠ -1 ∨ g.2.1.2.2.2.toInt = 1) ∧ v1.toInt = g.2.1.2.2.2.toInt ∧ po1 = po ∧ sp1 = sp ∧ y1 = yv ∧ d1 = dv) := hp3
  have z2_ := prV_s g.2.1
  have z8 := prK_s (laG g.2.1).2 g.2.1.2.2.2.toInt
  have pv9 := pP.2
  have e5 : v1 = prV g.2.1 := Int32.toInt_inj.mp (by clear hp1 hp2 hp3; omega)
  rw [e3, e4, e5] at hB
  rcases hp5 with ⟨y0, y2, y3, y4, rfl, rfl, y5, y6⟩ | ⟨y0, y2, y3, rfl, rfl, rfl, rfl⟩
  · skip
    obtain ⟨_, am_s9, h9⟩ := gH_fld hT ar_bd shc_3 (k := 14) (by decide); have hs9 := h9 _ rfl; obtain ⟨_, am_c9, h9⟩ := gH_fld hT hx shc_14 (k := 8) (by decide); have hc9 := h9 _ rfl
    have hT2 : gH (dC, dI) kA (SHc nC nS) (zmp zt_rP (zmp zt_s1 G)) t.heap := gH_un (f := zt_rP) (b := 166) (c := 167) hB.1 rs_rP (fun a u ha hu => by
      obtain ⟨t9, h1, h2⟩ := zmp_e ha
      obtain rfl : t9 = 3 := (fun u h => (by decide : ∀ z ∈ ZL_s1, z.2 = 166 → z.1 = 3) (u, 166) (zt_m (L := ZL_s1) h) rfl) t9 h2
      obtain rfl : a = bd := (hb3 a h1).trans (hb3 bd ar_bd).symm
      obtain rfl : 3 = u := Option.some.inj ((show zt_rP 166 = some 3 from by decide).symm.trans hu)
      have h8 := hB.1 _ _ ha
      rw [shc_166] at h8
      rw [shc_3]
      refine gC_re h8 (fun k v hk hm hv => match k, hk, hm, hv with
        | 0, _, hm, hv => gl_at rfl (rK_R (by decide) _ _ (hv _ rfl))
        | 1, _, hm, hv => gl_at rfl (rK_R (by decide) _ _ (hv _ rfl))
        | 2, _, hm, hv => gl_at rfl (rK_R (by decide) _ _ (hv _ rfl))
        | 3, _, hm, hv => gl_at rfl (rK_R (by decide) _ _ (hv _ rfl))
        | 4, _, hm, hv => gl_at rfl (rK_R (by decide) _ _ (hv _ rfl))
        | 5, _, hm, hv => gl_at rfl (rK_R (by decide) _ _ (hv _ rfl))
        | 6, _, hm, hv => gl_at rfl (rK_R (by decide) _ _ (hv _ rfl))
        | 7, _, hm, hv => gl_at rfl (by obtain rfl := Option.some.inj (hm.symm.trans ((hB.2.1.fld (zmp_s ar_bd (by decide)) skc_166 (k := 7) (by decide) (by decide)).trans am_lw)); exact ⟨_, rfl, (zmp_2 ar_lw (by decide))⟩)
        | 8, _, hm, hv => gl_at rfl (by obtain rfl := Option.some.inj (hm.symm.trans hB.2.2.2.2.2.1); exact ⟨_, rfl, (zmp_2 ar_sp (by decide))⟩)
        | 9, _, hm, hv => gl_at rfl (by obtain rfl := Option.some.inj (hm.symm.trans hB.2.2.2.2.2.2.1); exact ⟨_, rfl, (zmp_2 ar_po (by decide))⟩)
        | 10, _, hm, hv => gl_at rfl (hv _ rfl)
        | 11, _, hm, hv => gl_at rfl (hv _ rfl)
        | 12, _, hm, hv => gl_at rfl (hv _ rfl)
        | 13, _, hm, hv => gl_at rfl (hv _ rfl)
        | 14, _, hm, hv => gl_at rfl (by obtain rfl := Option.some.inj (hm.symm.trans ((hB.2.1.fld (zmp_s ar_bd (by decide)) skc_166 (k := 14) (by decide) (by decide)).trans am_s9)); exact hs9)
        | 15, _, hm, hv => gl_at rfl (hv _ rfl)
        | 16, _, hm, hv => gl_at rfl (hv _ rfl)
        | 17, _, hm, hv => gl_at rfl (hv _ rfl)
        | k + 18, hk, _, _ => absurd hk (by omega))) (fun a u ha hu => by
      obtain ⟨t9, h1, h2⟩ := zmp_e ha
      obtain rfl : t9 = 14 := (fun u h => (by decide : ∀ z ∈ ZL_s1, z.2 = 167 → z.1 = 14) (u, 167) (zt_m (L := ZL_s1) h) rfl) t9 h2
      obtain rfl : a = x := hb14 a h1
      obtain rfl : 14 = u := Option.some.inj ((show zt_rP 167 = some 14 from by decide).symm.trans hu)
      have h8 := hB.1 _ _ ha
      rw [shc_167] at h8
      rw [shc_14]
      refine gC_re h8 (fun k v hk hm hv => match k, hk, hm, hv with
        | 0, _, hm, hv => gl_at rfl (rK_R (by decide) _ _ (hv _ rfl))
        | 1, _, hm, hv => gl_at rfl (rK_R (by decide) _ _ (hv _ rfl))
        | 2, _, hm, hv => gl_at rfl (rK_R (by decide) _ _ (hv _ rfl))
        | 3, _, hm, hv => gl_at rfl (rK_R (by decide) _ _ (hv _ rfl))
        | 4, _, hm, hv => gl_at rfl (rK_R (by decide) _ _ (hv _ rfl))
        | 5, _, hm, hv => gl_at rfl (rK_R (by decide) _ _ (hv _ rfl))
        | 6, _, hm, hv => gl_at rfl (rK_N (by decide) _ _ (hv _ rfl))
        | 7, _, hm, hv => gl_at rfl (hv _ rfl)
        | 8, _, hm, hv => gl_at rfl (by obtain rfl := Option.some.inj (hm.symm.trans ((hB.2.1.fld (zmp_s hx (by decide)) skc_167 (k := 8) (by decide) (by decide)).trans am_c9)); exact hc9)
        | k + 9, hk, _, _ => absurd hk (by omega)))
    have pz1 : (g.2.2.2.1 = 0 ∧ hl.toInt = 0 ∧ ((g.2.2.2.2.1.length : Nat) : Int) = ln.toInt ∧ g.2.2.2.2.1.length ≤ 20 ∧ zRp g.2.2.2.2.1 vK vF vT (tz vS) 400 ∧ (∀ e ∈ g.2.2.2.2.1, zok e.2) ∧ y1.toInt = 0 ∧ d1.toInt = 0) ∨ (g.2.2.2.1 = 1 ∧ 0 < hl.toInt) := pz.imp (fun h9 => ⟨h9.1, h9.2.1, h9.2.2.1, h9.2.2.2.1, h9.2.2.2.2.1, h9.2.2.2.2.2.1, y5, y6⟩) id
    exact ⟨⟨r, (), e1, trivial, ⟨(zmp zt_rP (zmp zt_s1 G)), nC, nS, bo, wa, wc, hT2, (zmp_2 hx (by decide)), (zmp_2 hou (by decide)), hgC, hgS, (fun b h => hb3 b (zmp_b h (fun u h => (by decide : ∀ z ∈ ZL_rP, z.2 = 3 → z.1 = 166) (u, 3) (zt_m (L := ZL_rP) h) rfl) (fun u h => (by decide : ∀ z ∈ ZL_s1, z.2 = 166 → z.1 = 3) (u, 166) (zt_m (L := ZL_s1) h) rfl))), (fun b h => hb51 b (zmp_b h (fun u h => (by decide : ∀ z ∈ ZL_rP, z.2 = 51 → z.1 = 51) (u, 51) (zt_m (L := ZL_rP) h) rfl) (fun u h => (by decide : ∀ z ∈ ZL_s1, z.2 = 51 → z.1 = 51) (u, 51) (zt_m (L := ZL_s1) h) rfl))), (fun b h => hb14 b (zmp_b h (fun u h => (by decide : ∀ z ∈ ZL_rP, z.2 = 14 → z.1 = 167) (u, 14) (zt_m (L := ZL_rP) h) rfl) (fun u h => (by decide : ∀ z ∈ ZL_s1, z.2 = 167 → z.1 = 14) (u, 167) (zt_m (L := ZL_s1) h) rfl))), (fun b h => hb17 b (zmp_b h (fun u h => (by decide : ∀ z ∈ ZL_rP, z.2 = 17 → z.1 = 17) (u, 17) (zt_m (L := ZL_rP) h) rfl) (fun u h => (by decide : ∀ z ∈ ZL_s1, z.2 = 17 → z.1 = 17) (u, 17) (zt_m (L := ZL_s1) h) rfl))), (fun a t h => by obtain ⟨u, h1, -⟩ := zmp_e h; exact hps a u h1), hX1.kept hx (fun a t h h9 => zmp_2 h ((by decide : ∀ t ∈ FT12, (zt_s1 t).bind zt_rP = some t) t (of_decide_eq_true h9))) (fun b hb => (hB.2.1.fld (zmp_s hb (by decide)) skc_166 (k := 1) (by decide) (by decide))) (fun b hb => (hB.2.1.fld (zmp_s hb (by decide)) skc_166 (k := 2) (by decide) (by decide))) (fun b hb => (hB.2.1.fld (zmp_s hb (by decide)) skc_166 (k := 16) (by decide) (by decide))) (fun b hb => (hB.2.1.fld (zmp_s hb (by decide)) skc_5 (k := 0) (by decide) (by decide))) (fun b hb => (hB.2.1.fld (zmp_s hb (by decide)) skc_6 (k := 1) (by decide) (by decide))) (fun b hb => (hB.2.1.fld (zmp_s hb (by decide)) skc_6 (k := 4) (by decide) (by decide))) (fun b hb => (hB.2.1.fld (zmp_s hb (by decide)) skc_167 (k := 1) (by decide) (by decide))) (fun b hb => (hB.2.1.fld (zmp_s hb (by decide)) skc_167 (k := 3) (by decide) (by decide))) (fun b hb => (hB.2.1.fld (zmp_s hb (by decide)) skc_167 (k := 6) (by decide) (by decide))) (fun b hb => (hB.2.1.fld (zmp_s hb (by decide)) skc_90 (k := 1) (by decide) (by decide))) (fun b hb => (hB.2.1.fld (zmp_s hb (by decide)) skc_90 (k := 4) (by decide) (by decide))) (fun b hb => (hB.2.1.fld (zmp_s hb (by decide)) skc_93 (k := 0) (by decide) (by decide))) (fun b hb => (hB.2.1.arr (zmp_s hb (by decide)) skc_25 (by decide))) (fun b hb => (hB.2.1.arr (zmp_s hb (by decide)) skc_52 (by decide))) (fun b hb => (hB.2.1.arr (zmp_s hb (by decide)) skc_53 (by decide))) (fun b hb => (hB.2.1.arr (zmp_s hb (by decide)) skc_77 (by decide))), ⟨ta_2, bd, 0, fvG g.2.1, prV g.2.1, g.2.1.2.1, hB.2.2.2.1, (hB.2.1.fld (zmp_s hx (by decide)) skc_167 (k := 0) (by decide) (by decide)).trans am_ta_2, (zmp_2 ar_ta_2 (by decide)), ac_vc_2.kept (hB.2.1.arr (zmp_s ar_ta_2 (by decide)) skc_16 (by decide)), (hB.2.1.fld (zmp_s hx (by decide)) skc_167 (k := 3) (by decide) (by decide)).trans am_bd_2, (zmp_2 ar_bd_2 (by decide)), hB.2.2.1, hB.2.2.2.2.1, rfl, rfl, rfl, rfl, pP.pr⟩, ⟨bd, hd9, sA, lw, kn, sf, sto, stp9, hl, ln, y1, d1, vh, vK, vF, vT, vS, (hB.2.1.fld (zmp_s hx (by decide)) skc_167 (k := 3) (by decide) (by decide)).trans am_bd, (zmp_2 ar_bd (by decide)), (hB.2.1.fld (zmp_s ar_bd (by decide)) skc_166 (k := 3) (by decide) (by decide)).trans am_hd9, (zmp_2 ar_hd9 (by decide)), ac_vh.kept (hB.2.1.arr (zmp_s ar_hd9 (by decide)) skc_54 (by decide)), (hB.2.1.fld (zmp_s ar_bd (by decide)) skc_166 (k := 0) (by decide) (by decide)).trans am_sA, (zmp_2 ar_sA (by decide)), (hB.2.1.fld (zmp_s ar_bd (by decide)) skc_166 (k := 15) (by decide) (by decide)).trans am_hl, hB.2.2.2.2.2.2.2.1, hB.2.2.2.2.2.2.2.2, (hB.2.1.fld (zmp_s ar_bd (by decide)) skc_166 (k := 7) (by decide) (by decide)).trans am_lw, (zmp_2 ar_lw (by decide)), (hB.2.1.fld (zmp_s ar_lw (by decide)) skc_7 (k := 11) (by decide) (by decide)).trans am_ln, (hB.2.1.fld (zmp_s ar_lw (by decide)) skc_7 (k := 2) (by decide) (by decide)).trans am_kn, (zmp_2 ar_kn (by decide)), ac_vK.kept (hB.2.1.arr (zmp_s ar_kn (by decide)) skc_42 (by decide)), (hB.2.1.fld (zmp_s ar_lw (by decide)) skc_7 (k := 7) (by decide) (by decide)).trans am_sf, (zmp_2 ar_sf (by decide)), ac_vF.kept (hB.2.1.arr (zmp_s ar_sf (by decide)) skc_47 (by decide)), (hB.2.1.fld (zmp_s ar_lw (by decide)) skc_7 (k := 8) (by decide) (by decide)).trans am_sto, (zmp_2 ar_sto (by decide)), ac_vT.kept (hB.2.1.arr (zmp_s ar_sto (by decide)) skc_48 (by decide)), (hB.2.1.fld (zmp_s ar_lw (by decide)) skc_7 (k := 9) (by decide) (by decide)).trans am_stp9, (zmp_2 ar_stp9 (by decide)), ac_vS.kept (hB.2.1.arr (zmp_s ar_stp9 (by decide)) skc_49 (by decide)), ⟨pn, pct, pz1⟩, (fun h9 => (hS h9).kept hT hgS ar_sA (fun b hb => (hB.2.1.arr (zmp_s hb (by decide)) skc_51 (by decide))) (fun b hb => (hB.2.1.fld (zmp_s hb (by decide)) skc_10 (k := 7) (by decide) (by decide))) (fun b hb => (hB.2.1.fld (zmp_s hb (by decide)) skc_10 (k := 8) (by decide) (by decide))) (fun b hb => (hB.2.1.fld (zmp_s hb (by decide)) skc_10 (k := 9) (by decide) (by decide))) (fun b hb => (hB.2.1.fld (zmp_s hb (by decide)) skc_10 (k := 0) (by decide) (by decide))) (fun b hb => (hB.2.1.fld (zmp_s hb (by decide)) skc_10 (k := 1) (by decide) (by decide))) (fun b hb => (hB.2.1.fld (zmp_s hb (by decide)) skc_10 (k := 6) (by decide) (by decide))) (fun b hb => (hB.2.1.fld (zmp_s hb (by decide)) skc_10 (k := 2) (by decide) (by decide))) (fun b hb => (hB.2.1.fld (zmp_s hb (by decide)) skc_10 (k := 3) (by decide) (by decide))) (fun b hb => (hB.2.1.fld (zmp_s hb (by decide)) skc_10 (k := 4) (by decide) (by decide))))⟩⟩⟩, hF.sub hAs⟩
  · skip
    obtain ⟨_, am_s9, h9⟩ := gH_fld hT ar_bd shc_3 (k := 14) (by decide); have hs9 := h9 _ rfl; obtain ⟨_, am_c9, h9⟩ := gH_fld hT hx shc_14 (k := 8) (by decide); have hc9 := h9 _ rfl
    have hT2 : gH (dC, dI) kA (SHc nC nS) (zmp zt_r0 (zmp zt_s1 G)) t.heap := gH_un (f := zt_r0) (b := 166) (c := 167) hB.1 rs_r0 (fun a u ha hu => by
      obtain ⟨t9, h1, h2⟩ := zmp_e ha
      obtain rfl : t9 = 3 := (fun u h => (by decide : ∀ z ∈ ZL_s1, z.2 = 166 → z.1 = 3) (u, 166) (zt_m (L := ZL_s1) h) rfl) t9 h2
      obtain rfl : a = bd := (hb3 a h1).trans (hb3 bd ar_bd).symm
      obtain rfl : 3 = u := Option.some.inj ((show zt_r0 166 = some 3 from by decide).symm.trans hu)
      have h8 := hB.1 _ _ ha
      rw [shc_166] at h8
      rw [shc_3]
      refine gC_re h8 (fun k v hk hm hv => match k, hk, hm, hv with
        | 0, _, hm, hv => gl_at rfl (rK_R (by decide) _ _ (hv _ rfl))
        | 1, _, hm, hv => gl_at rfl (rK_R (by decide) _ _ (hv _ rfl))
        | 2, _, hm, hv => gl_at rfl (rK_R (by decide) _ _ (hv _ rfl))
        | 3, _, hm, hv => gl_at rfl (rK_R (by decide) _ _ (hv _ rfl))
        | 4, _, hm, hv => gl_at rfl (rK_R (by decide) _ _ (hv _ rfl))
        | 5, _, hm, hv => gl_at rfl (rK_R (by decide) _ _ (hv _ rfl))
        | 6, _, hm, hv => gl_at rfl (rK_R (by decide) _ _ (hv _ rfl))
        | 7, _, hm, hv => gl_at rfl (by obtain rfl := Option.some.inj (hm.symm.trans ((hB.2.1.fld (zmp_s ar_bd (by decide)) skc_166 (k := 7) (by decide) (by decide)).trans am_lw)); exact ⟨_, rfl, (zmp_2 ar_lw (by decide))⟩)
        | 8, _, hm, hv => gl_at rfl (by obtain rfl := Option.some.inj (hm.symm.trans hB.2.2.2.2.2.1); exact ⟨_, rfl, (zmp_2 ar_po (by decide))⟩)
        | 9, _, hm, hv => gl_at rfl (by obtain rfl := Option.some.inj (hm.symm.trans hB.2.2.2.2.2.2.1); exact ⟨_, rfl, (zmp_2 ar_sp (by decide))⟩)
        | 10, _, hm, hv => gl_at rfl (hv _ rfl)
        | 11, _, hm, hv => gl_at rfl (hv _ rfl)
        | 12, _, hm, hv => gl_at rfl (hv _ rfl)
        | 13, _, hm, hv => gl_at rfl (hv _ rfl)
        | 14, _, hm, hv => gl_at rfl (by obtain rfl := Option.some.inj (hm.symm.trans ((hB.2.1.fld (zmp_s ar_bd (by decide)) skc_166 (k := 14) (by decide) (by decide)).trans am_s9)); exact hs9)
        | 15, _, hm, hv => gl_at rfl (hv _ rfl)
        | 16, _, hm, hv => gl_at rfl (hv _ rfl)
        | 17, _, hm, hv => gl_at rfl (hv _ rfl)
        | k + 18, hk, _, _ => absurd hk (by omega))) (fun a u ha hu => by
      obtain ⟨t9, h1, h2⟩ := zmp_e ha
      obtain rfl : t9 = 14 := (fun u h => (by decide : ∀ z ∈ ZL_s1, z.2 = 167 → z.1 = 14) (u, 167) (zt_m (L := ZL_s1) h) rfl) t9 h2
      obtain rfl : a = x := hb14 a h1
      obtain rfl : 14 = u := Option.some.inj ((show zt_r0 167 = some 14 from by decide).symm.trans hu)
      have h8 := hB.1 _ _ ha
      rw [shc_167] at h8
      rw [shc_14]
      refine gC_re h8 (fun k v hk hm hv => match k, hk, hm, hv with
        | 0, _, hm, hv => gl_at rfl (rK_R (by decide) _ _ (hv _ rfl))
        | 1, _, hm, hv => gl_at rfl (rK_R (by decide) _ _ (hv _ rfl))
        | 2, _, hm, hv => gl_at rfl (rK_R (by decide) _ _ (hv _ rfl))
        | 3, _, hm, hv => gl_at rfl (rK_R (by decide) _ _ (hv _ rfl))
        | 4, _, hm, hv => gl_at rfl (rK_R (by decide) _ _ (hv _ rfl))
        | 5, _, hm, hv => gl_at rfl (rK_R (by decide) _ _ (hv _ rfl))
        | 6, _, hm, hv => gl_at rfl (rK_N (by decide) _ _ (hv _ rfl))
        | 7, _, hm, hv => gl_at rfl (hv _ rfl)
        | 8, _, hm, hv => gl_at rfl (by obtain rfl := Option.some.inj (hm.symm.trans ((hB.2.1.fld (zmp_s hx (by decide)) skc_167 (k := 8) (by decide) (by decide)).trans am_c9)); exact hc9)
        | k + 9, hk, _, _ => absurd hk (by omega)))
    have pz1 : (g.2.2.2.1 = 0 ∧ hl.toInt = 0 ∧ ((g.2.2.2.2.1.length : Nat) : Int) = ln.toInt ∧ g.2.2.2.2.1.length ≤ 20 ∧ zRp g.2.2.2.2.1 vK vF vT (tz vS) 400 ∧ (∀ e ∈ g.2.2.2.2.1, zok e.2) ∧ y1.toInt = 0 ∧ d1.toInt = 0) ∨ (g.2.2.2.1 = 1 ∧ 0 < hl.toInt) := pz.imp (fun h9 => ⟨h9.1, h9.2.1, h9.2.2.1, h9.2.2.2.1, h9.2.2.2.2.1, h9.2.2.2.2.2.1, h9.2.2.2.2.2.2⟩) id
    exact ⟨⟨r, (), e1, trivial, ⟨(zmp zt_r0 (zmp zt_s1 G)), nC, nS, bo, wa, wc, hT2, (zmp_2 hx (by decide)), (zmp_2 hou (by decide)), hgC, hgS, (fun b h => hb3 b (zmp_b h (fun u h => (by decide : ∀ z ∈ ZL_r0, z.2 = 3 → z.1 = 166) (u, 3) (zt_m (L := ZL_r0) h) rfl) (fun u h => (by decide : ∀ z ∈ ZL_s1, z.2 = 166 → z.1 = 3) (u, 166) (zt_m (L := ZL_s1) h) rfl))), (fun b h => hb51 b (zmp_b h (fun u h => (by decide : ∀ z ∈ ZL_r0, z.2 = 51 → z.1 = 51) (u, 51) (zt_m (L := ZL_r0) h) rfl) (fun u h => (by decide : ∀ z ∈ ZL_s1, z.2 = 51 → z.1 = 51) (u, 51) (zt_m (L := ZL_s1) h) rfl))), (fun b h => hb14 b (zmp_b h (fun u h => (by decide : ∀ z ∈ ZL_r0, z.2 = 14 → z.1 = 167) (u, 14) (zt_m (L := ZL_r0) h) rfl) (fun u h => (by decide : ∀ z ∈ ZL_s1, z.2 = 167 → z.1 = 14) (u, 167) (zt_m (L := ZL_s1) h) rfl))), (fun b h => hb17 b (zmp_b h (fun u h => (by decide : ∀ z ∈ ZL_r0, z.2 = 17 → z.1 = 17) (u, 17) (zt_m (L := ZL_r0) h) rfl) (fun u h => (by decide : ∀ z ∈ ZL_s1, z.2 = 17 → z.1 = 17) (u, 17) (zt_m (L := ZL_s1) h) rfl))), (fun a t h => by obtain ⟨u, h1, -⟩ := zmp_e h; exact hps a u h1), hX1.kept hx (fun a t h h9 => zmp_2 h ((by decide : ∀ t ∈ FT12, (zt_s1 t).bind zt_r0 = some t) t (of_decide_eq_true h9))) (fun b hb => (hB.2.1.fld (zmp_s hb (by decide)) skc_166 (k := 1) (by decide) (by decide))) (fun b hb => (hB.2.1.fld (zmp_s hb (by decide)) skc_166 (k := 2) (by decide) (by decide))) (fun b hb => (hB.2.1.fld (zmp_s hb (by decide)) skc_166 (k := 16) (by decide) (by decide))) (fun b hb => (hB.2.1.fld (zmp_s hb (by decide)) skc_5 (k := 0) (by decide) (by decide))) (fun b hb => (hB.2.1.fld (zmp_s hb (by decide)) skc_6 (k := 1) (by decide) (by decide))) (fun b hb => (hB.2.1.fld (zmp_s hb (by decide)) skc_6 (k := 4) (by decide) (by decide))) (fun b hb => (hB.2.1.fld (zmp_s hb (by decide)) skc_167 (k := 1) (by decide) (by decide))) (fun b hb => (hB.2.1.fld (zmp_s hb (by decide)) skc_167 (k := 3) (by decide) (by decide))) (fun b hb => (hB.2.1.fld (zmp_s hb (by decide)) skc_167 (k := 6) (by decide) (by decide))) (fun b hb => (hB.2.1.fld (zmp_s hb (by decide)) skc_90 (k := 1) (by decide) (by decide))) (fun b hb => (hB.2.1.fld (zmp_s hb (by decide)) skc_90 (k := 4) (by decide) (by decide))) (fun b hb => (hB.2.1.fld (zmp_s hb (by decide)) skc_93 (k := 0) (by decide) (by decide))) (fun b hb => (hB.2.1.arr (zmp_s hb (by decide)) skc_25 (by decide))) (fun b hb => (hB.2.1.arr (zmp_s hb (by decide)) skc_52 (by decide))) (fun b hb => (hB.2.1.arr (zmp_s hb (by decide)) skc_53 (by decide))) (fun b hb => (hB.2.1.arr (zmp_s hb (by decide)) skc_77 (by decide))), ⟨ta_2, bd, 0, fvG g.2.1, prV g.2.1, g.2.1.2.1, hB.2.2.2.1, (hB.2.1.fld (zmp_s hx (by decide)) skc_167 (k := 0) (by decide) (by decide)).trans am_ta_2, (zmp_2 ar_ta_2 (by decide)), ac_vc_2.kept (hB.2.1.arr (zmp_s ar_ta_2 (by decide)) skc_16 (by decide)), (hB.2.1.fld (zmp_s hx (by decide)) skc_167 (k := 3) (by decide) (by decide)).trans am_bd_2, (zmp_2 ar_bd_2 (by decide)), hB.2.2.1, hB.2.2.2.2.1, rfl, rfl, rfl, rfl, pP.pr⟩, ⟨bd, hd9, sA, lw, kn, sf, sto, stp9, hl, ln, y1, d1, vh, vK, vF, vT, vS, (hB.2.1.fld (zmp_s hx (by decide)) skc_167 (k := 3) (by decide) (by decide)).trans am_bd, (zmp_2 ar_bd (by decide)), (hB.2.1.fld (zmp_s ar_bd (by decide)) skc_166 (k := 3) (by decide) (by decide)).trans am_hd9, (zmp_2 ar_hd9 (by decide)), ac_vh.kept (hB.2.1.arr (zmp_s ar_hd9 (by decide)) skc_54 (by decide)), (hB.2.1.fld (zmp_s ar_bd (by decide)) skc_166 (k := 0) (by decide) (by decide)).trans am_sA, (zmp_2 ar_sA (by decide)), (hB.2.1.fld (zmp_s ar_bd (by decide)) skc_166 (k := 15) (by decide) (by decide)).trans am_hl, hB.2.2.2.2.2.2.2.1, hB.2.2.2.2.2.2.2.2, (hB.2.1.fld (zmp_s ar_bd (by decide)) skc_166 (k := 7) (by decide) (by decide)).trans am_lw, (zmp_2 ar_lw (by decide)), (hB.2.1.fld (zmp_s ar_lw (by decide)) skc_7 (k := 11) (by decide) (by decide)).trans am_ln, (hB.2.1.fld (zmp_s ar_lw (by decide)) skc_7 (k := 2) (by decide) (by decide)).trans am_kn, (zmp_2 ar_kn (by decide)), ac_vK.kept (hB.2.1.arr (zmp_s ar_kn (by decide)) skc_42 (by decide)), (hB.2.1.fld (zmp_s ar_lw (by decide)) skc_7 (k := 7) (by decide) (by decide)).trans am_sf, (zmp_2 ar_sf (by decide)), ac_vF.kept (hB.2.1.arr (zmp_s ar_sf (by decide)) skc_47 (by decide)), (hB.2.1.fld (zmp_s ar_lw (by decide)) skc_7 (k := 8) (by decide) (by decide)).trans am_sto, (zmp_2 ar_sto (by decide)), ac_vT.kept (hB.2.1.arr (zmp_s ar_sto (by decide)) skc_48 (by decide)), (hB.2.1.fld (zmp_s ar_lw (by decide)) skc_7 (k := 9) (by decide) (by decide)).trans am_stp9, (zmp_2 ar_stp9 (by decide)), ac_vS.kept (hB.2.1.arr (zmp_s ar_stp9 (by decide)) skc_49 (by decide)), ⟨pn, pct, pz1⟩, (fun h9 => (hS h9).kept hT hgS ar_sA (fun b hb => (hB.2.1.arr (zmp_s hb (by decide)) skc_51 (by decide))) (fun b hb => (hB.2.1.fld (zmp_s hb (by decide)) skc_10 (k := 7) (by decide) (by decide))) (fun b hb => (hB.2.1.fld (zmp_s hb (by decide)) skc_10 (k := 8) (by decide) (by decide))) (fun b hb => (hB.2.1.fld (zmp_s hb (by decide)) skc_10 (k := 9) (by decide) (by decide))) (fun b hb => (hB.2.1.fld (zmp_s hb (by decide)) skc_10 (k := 0) (by decide) (by decide))) (fun b hb => (hB.2.1.fld (zmp_s hb (by decide)) skc_10 (k := 1) (by decide) (by decide))) (fun b hb => (hB.2.1.fld (zmp_s hb (by decide)) skc_10 (k := 6) (by decide) (by decide))) (fun b hb => (hB.2.1.fld (zmp_s hb (by decide)) skc_10 (k := 2) (by decide) (by decide))) (fun b hb => (hB.2.1.fld (zmp_s hb (by decide)) skc_10 (k := 3) (by decide) (by decide))) (fun b hb => (hB.2.1.fld (zmp_s hb (by decide)) skc_10 (k := 4) (by decide) (by decide))))⟩⟩⟩, hF.sub hAs⟩
def w_u_close : List Cond := .codeWith yL_close cL_close 3 (some .int) [(0, 15, 18, 17)] :: (HAppend.hAppend (α := List Cond) (β := List Cond) (γ := List Cond) [.code yX11_close cX11_close 1 (some .boolean), .code yX11_needVote cX11_needVote 1 none, .fieldLink RX11 30 "SeaLand" "board" "LSeaLand$Board;", .classLink RX11 69 "java/lang/IllegalStateException", .initialized "java/lang/IllegalStateException", .methodLink RX11 296 yX11_needVote, .instanceMethod yX11_needVote, .selects RX11 yX11_needVote yX11_needVote, .initialized RX11, .code yX0_closeVote cX0_closeVote 3 (some .boolean), .fieldLink RX0 68 "SeaLand$Board" "yesVotes" "J", .constantLong RX0 92 100, .fieldLink RX0 72 "SeaLand$Board" "allVotes" "J", .fieldLink RX0 41 "SeaLand$Board" "force" "LSeaLand$Law;", .code yX4_lastOf cX4_lastOf 5 (some .int), .fieldLink RX4 60 "SeaLand$Law" "lines" "I", .fieldLink RX4 18 "SeaLand$Law" "kinds" "[I", .fieldLink RX4 21 "SeaLand$Law" "firsts" "[I", .methodLink RX0 94 yX4_lastOf, .instanceMethod yX4_lastOf, .selects RX4 yX4_lastOf yX4_lastOf, .initialized RX4, .fieldLink RX0 64 "SeaLand$Board" "voting" "Z", .methodLink RX11 303 yX0_closeVote, .instanceMethod yX0_closeVote, .selects RX0 yX0_closeVote yX0_closeVote, .initialized RX0, .methodLink RL 94 yX11_close, .instanceMethod yX11_close, .selects RX11 yX11_close yX11_close, .classLink RL 17 "java/lang/IllegalStateException", .code yX11_close cX11_close 1 (some .boolean), .code yX11_needVote cX11_needVote 1 none, .fieldLink RX11 30 "SeaLand" "board" "LSeaLand$Board;", .classLink RX11 69 "java/lang/IllegalStateException", .initialized "java/lang/IllegalStateException", .methodLink RX11 296 yX11_needVote, .instanceMethod yX11_needVote, .selects RX11 yX11_needVote yX11_needVote, .initialized RX11, .code yX0_closeVote cX0_closeVote 3 (some .boolean), .fieldLink RX0 68 "SeaLand$Board" "yesVotes" "J", .constantLong RX0 92 100, .fieldLink RX0 72 "SeaLand$Board" "allVotes" "J", .fieldLink RX0 41 "SeaLand$Board" "force" "LSeaLand$Law;", .code yX4_lastOf cX4_lastOf 5 (some .int), .fieldLink RX4 60 "SeaLand$Law" "lines" "I", .fieldLink RX4 18 "SeaLand$Law" "kinds" "[I", .fieldLink RX4 21 "SeaLand$Law" "firsts" "[I", .methodLink RX0 94 yX4_lastOf, .instanceMethod yX4_lastOf, .selects RX4 yX4_lastOf yX4_lastOf, .initialized RX4, .fieldLink RX0 64 "SeaLand$Board" "voting" "Z", .fieldLink RX0 45 "SeaLand$Board" "proposed" "LSeaLand$Law;", .methodLink RX11 303 yX0_closeVote, .instanceMethod yX0_closeVote, .selects RX0 yX0_closeVote yX0_closeVote, .initialized RX0, .methodLink RL 94 yX11_close, .instanceMethod yX11_close, .selects RX11 yX11_close yX11_close, .classLink RL 17 "java/lang/IllegalStateException"] bs2)
def wa_u_close : List Cond := [.code yX11_close cX11_close 1 (some .boolean), .code yX11_needVote cX11_needVote 1 none, .fieldLink RX11 30 "SeaLand" "board" "LSeaLand$Board;", .classLink RX11 69 "java/lang/IllegalStateException", .initialized "java/lang/IllegalStateException", .methodLink RX11 296 yX11_needVote, .instanceMethod yX11_needVote, .selects RX11 yX11_needVote yX11_needVote, .initialized RX11, .code yX0_closeVote cX0_closeVote 3 (some .boolean), .fieldLink RX0 68 "SeaLand$Board" "yesVotes" "J", .constantLong RX0 92 100, .fieldLink RX0 72 "SeaLand$Board" "allVotes" "J", .fieldLink RX0 41 "SeaLand$Board" "force" "LSeaLand$Law;", .code yX4_lastOf cX4_lastOf 5 (some .int), .fieldLink RX4 60 "SeaLand$Law" "lines" "I", .fieldLink RX4 18 "SeaLand$Law" "kinds" "[I", .fieldLink RX4 21 "SeaLand$Law" "firsts" "[I", .methodLink RX0 94 yX4_lastOf, .instanceMethod yX4_lastOf, .selects RX4 yX4_lastOf yX4_lastOf, .initialized RX4, .fieldLink RX0 64 "SeaLand$Board" "voting" "Z", .methodLink RX11 303 yX0_closeVote, .instanceMethod yX0_closeVote, .selects RX0 yX0_closeVote yX0_closeVote, .initialized RX0, .methodLink RL 94 yX11_close, .instanceMethod yX11_close, .selects RX11 yX11_close yX11_close, .classLink RL 17 "java/lang/IllegalStateException"]
def wb_u_close : List Cond := [.code yX11_close cX11_close 1 (some .boolean), .code yX11_needVote cX11_needVote 1 none, .fieldLink RX11 30 "SeaLand" "board" "LSeaLand$Board;", .classLink RX11 69 "java/lang/IllegalStateException", .initialized "java/lang/IllegalStateException", .methodLink RX11 296 yX11_needVote, .instanceMethod yX11_needVote, .selects RX11 yX11_needVote yX11_needVote, .initialized RX11, .code yX0_closeVote cX0_closeVote 3 (some .boolean), .fieldLink RX0 68 "SeaLand$Board" "yesVotes" "J", .constantLong RX0 92 100, .fieldLink RX0 72 "SeaLand$Board" "allVotes" "J", .fieldLink RX0 41 "SeaLand$Board" "force" "LSeaLand$Law;", .code yX4_lastOf cX4_lastOf 5 (some .int), .fieldLink RX4 60 "SeaLand$Law" "lines" "I", .fieldLink RX4 18 "SeaLand$Law" "kinds" "[I", .fieldLink RX4 21 "SeaLand$Law" "firsts" "[I", .methodLink RX0 94 yX4_lastOf, .instanceMethod yX4_lastOf, .selects RX4 yX4_lastOf yX4_lastOf, .initialized RX4, .fieldLink RX0 64 "SeaLand$Board" "voting" "Z", .fieldLink RX0 45 "SeaLand$Board" "proposed" "LSeaLand$Law;", .methodLink RX11 303 yX0_closeVote, .instanceMethod yX0_closeVote, .selects RX0 yX0_closeVote yX0_closeVote, .initialized RX0, .methodLink RL 94 yX11_close, .instanceMethod yX11_close, .selects RX11 yX11_close yX11_close, .classLink RL 17 "java/lang/IllegalStateException"]
theorem u_close_1 : ∀ c ∈ w_l_closeZN, c ∈ w_u_close := mem_u1 (h := .codeWith yL_close cL_close 3 (some .int) [(0, 15, 18, 17)]) (a := wa_u_close) (b := wb_u_close) (s := bs2)
theorem u_close_2 : ∀ c ∈ w_l_closeZG, c ∈ w_u_close := mem_u2 (h := .codeWith yL_close cL_close 3 (some .int) [(0, 15, 18, 17)]) (a := wa_u_close) (b := wb_u_close) (s := bs2)
