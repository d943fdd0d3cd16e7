set_option maxHeartbeats 4000000 in
theorem k_close (l : Launch) (hlt : l.stackTraces = false) (dC : Nat → ClassId) (dI : Nat → Nat → Nat) (kA : Nat → ClassId) (adK adV : Nat → Nat) (Pr : Nat → Prop) (H0 : Heap) (x ou : Nat)  {g : gz} (hPr : ∀ a, Pr a → a < H0.size) (hI : CJ dC dI kA Pr g x ou H0) : Met l yL_close w_u_close ({ frames := 8, cells := 1, slots := 6, locals := 140 }) (va_Pc [.ref x, .ref ou] (fun U => U.heap = H0 ∧ va_K (dC, dI) vwCl (tyl kA) U ∧ EVC adK adV (fun q => ¬ Pr q) U U.heap ∧ NC U ∧ AO U)) (va_Qi (fun (r : Int32) (u : Unit) => True) (fun (u : Unit) (t : State) => CJ dC dI kA Pr (g.1, clF g.2.1, g.2.2) x ou t.heap) (fun q => ¬ Pr q)) 1 6 (fun q => ¬ Pr q) := by
  obtain ⟨G, nC, nS, bo, wa, wc, hT, hx, hou, hgC, hgS, hb3, hb51, hb14, hb17, hp9, hX1, hX2, hX3⟩ := hI
  have hA9 := gA_pr hPr hp9
  obtain ⟨bd, hd9, sA, lw, kn, sf, sto, stp9, hl, ln, yv, dv, vh, vK, vF, vT, vS, am_bd, ar_bd, am_hd9, ar_hd9, ac_vh, am_sA, ar_sA, am_hl, am_yv, am_dv, am_lw, ar_lw, am_ln, am_kn, ar_kn, ac_vK, am_sf, ar_sf, ac_vF, am_sto, ar_sto, ac_vT, am_stp9, ar_stp9, ac_vS, hP, hS⟩ := id hX3
  obtain ⟨pn, pct, pz⟩ := id hP
  obtain ⟨ta_2, bd_2, tn_2, fa_2, vo_2, vc_2, am_tn_2, am_ta_2, ar_ta_2, ac_vc_2, am_bd_2, ar_bd_2, am_fa_2, am_vo_2, hP_2⟩ := id hX2
  obtain ⟨pe0, pe1, pe2, pe3, pP⟩ := id hP_2
  obtain rfl : bd = bd_2 := ref_eq am_bd am_bd_2
  subst pe0 pe1 pe2 pe3
  obtain ⟨_, am_sp, h9⟩ := gH_fld hT ar_bd shc_3 (k := 9) (by decide)
  obtain ⟨sp, rfl, ar_sp⟩ := h9 _ rfl
  obtain ⟨_, am_po, h9⟩ := gH_fld hT ar_bd shc_3 (k := 8) (by decide)
  obtain ⟨po, rfl, ar_po⟩ := h9 _ rfl
  obtain ⟨_, am_kn9, h9⟩ := gH_fld hT ar_sp shc_152 (k := 2) (by decide)
  obtain ⟨kn9, rfl, ar_kn9⟩ := h9 _ rfl
  obtain ⟨vK9, ac_vK9, -⟩ := ct_of hT ar_kn9 shc_155
  obtain ⟨_, am_sf9, h9⟩ := gH_fld hT ar_sp shc_152 (k := 7) (by decide)
  obtain ⟨sf9, rfl, ar_sf9⟩ := h9 _ rfl
  obtain ⟨vF9, ac_vF9, -⟩ := ct_of hT ar_sf9 shc_160
  obtain ⟨_, am_st9, h9⟩ := gH_fld hT ar_sp shc_152 (k := 8) (by decide)
  obtain ⟨st9, rfl, ar_st9⟩ := h9 _ rfl
  obtain ⟨vE9, ac_vE9, -⟩ := ct_of hT ar_st9 shc_161
  obtain ⟨_, am_sp9, h9⟩ := gH_fld hT ar_sp shc_152 (k := 9) (by decide)
  obtain ⟨sp9, rfl, ar_sp9⟩ := h9 _ rfl
  obtain ⟨vS9, ac_vS9, -⟩ := ct_of hT ar_sp9 shc_162
  have hTs := gH_mp (f := zt_s1) hT (rs_s1 hgC hgS)
  have hps : ∀ a t, zmp zt_s1 G a = some t → ¬ Pr a := fun a t h => by obtain ⟨u, h1, -⟩ := zmp_e h; exact hp9 a u h1
  have hAs := gA_pr hPr hps
  rcases pz with ⟨hb0, z1, z2, z3, z4, z5, z6, z7⟩ | ⟨hb1, z1⟩
  · refine Met.weak (Met.ww (ws' := w_u_close) (rm' := { frames := 8, cells := 1, slots := 6, locals := 140 }) (mc' := 1) (ms' := 6) (l_closeZN (l := l) (hlt := hlt) (dC := dC) (dI := dI) (kA := kA) (adK := adK) (adV := adV) (G := (zmp zt_s1 G)) (H0 := H0) (nC := nC) (nS := nS) (o0 := x) (ou := ou) (bd := bd) (vo := g.2.1.2.2.2) (yv := yv) (dv9 := dv) (fo := lw) (hT := hTs) (hr_o0 := (zmp_s hx (by decide))) (hr_ou := (zmp_s hou (by decide))) (hm_bd := am_bd) (hr_bd := (zmp_s ar_bd (by decide))) (hm_vo := am_vo_2) (hm_yv := am_yv) (hm_dv9 := am_dv) (hm_fo := am_lw) (hr_fo := (zmp_s ar_lw (by decide))) (hq0 := pP.2) (hyv := z6) (hdv := z7) (hgC := hgC) (hgS := hgS)) u_close_1 (by decide) (by decide) (by decide) (by decide) (by decide) (by decide)) (fun a U h => ⟨h.1, h.2.1, h.2.2.1, EVC.narrow h.2.2.2.1 hAs, h.2.2.2.2.1⟩) (fun a st oc t _ h => ?_) hAs
    obtain ⟨⟨r, v1, e1, hp, hB⟩, hF⟩ := h
    have e3 : v1 = 0 := Int32.toInt_inj.mp (hp.2.trans (by decide : (0 : Int) = (0 : Int32).toInt))
    rw [e3] at hB
    obtain ⟨_, am_s9, h9⟩ := gH_fld hT ar_bd shc_3 (k := 14) (by decide); have hs9 := h9 _ rfl; obtain ⟨_, am_c9, h9⟩ := gH_fld hT hx shc_14 (k := 8) (by decide); have hc9 := h9 _ rfl
    have hT2 : gH (dC, dI) kA (SHc nC nS) (zmp zt_r0 (zmp zt_s1 G)) t.heap := gH_un (f := zt_r0) (b := 166) (c := 167) hB.1 rs_r0 (fun a u ha hu => by
      obtain ⟨t9, h1, h2⟩ := zmp_e ha
      obtain rfl : t9 = 3 := (fun u h => (by decide : ∀ z ∈ ZL_s1, z.2 = 166 → z.1 = 3) (u, 166) (zt_m (L := ZL_s1) h) rfl) t9 h2
      obtain rfl : a = bd := (hb3 a h1).trans (hb3 bd ar_bd).symm
      obtain rfl : 3 = u := Option.some.inj ((show zt_r0 166 = some 3 from by decide).symm.trans hu)
      have h8 := hB.1 _ _ ha
      rw [shc_166] at h8
      rw [shc_3]
      refine gC_re h8 (fun k v hk hm hv => match k, hk, hm, hv with
        | 0, _, hm, hv => gl_at rfl (rK_R (by decide) _ _ (hv _ rfl))
        | 1, _, hm, hv => gl_at rfl (rK_R (by decide) _ _ (hv _ rfl))
        | 2, _, hm, hv => gl_at rfl (rK_R (by decide) _ _ (hv _ rfl))
        | 3, _, hm, hv => gl_at rfl (rK_R (by decide) _ _ (hv _ rfl))
        | 4, _, hm, hv => gl_at rfl (rK_R (by decide) _ _ (hv _ rfl))
        | 5, _, hm, hv => gl_at rfl (rK_R (by decide) _ _ (hv _ rfl))
        | 6, _, hm, hv => gl_at rfl (rK_R (by decide) _ _ (hv _ rfl))
        | 7, _, hm, hv => gl_at rfl (by obtain rfl := Option.some.inj (hm.symm.trans ((hB.2.1.fld (zmp_s ar_bd (by decide)) skc_166 (k := 7) (by decide) (by decide)).trans am_lw)); exact ⟨_, rfl, (zmp_2 ar_lw (by decide))⟩)
        | 8, _, hm, hv => gl_at rfl (by obtain rfl := Option.some.inj (hm.symm.trans ((hB.2.1.fld (zmp_s ar_bd (by decide)) skc_166 (k := 8) (by decide) (by decide)).trans am_po)); exact ⟨_, rfl, (zmp_2 ar_po (by decide))⟩)
        | 9, _, hm, hv => gl_at rfl (by obtain rfl := Option.some.inj (hm.symm.trans ((hB.2.1.fld (zmp_s ar_bd (by decide)) skc_166 (k := 9) (by decide) (by decide)).trans am_sp)); exact ⟨_, rfl, (zmp_2 ar_sp (by decide))⟩)
        | 10, _, hm, hv => gl_at rfl (hv _ rfl)
        | 11, _, hm, hv => gl_at rfl (hv _ rfl)
        | 12, _, hm, hv => gl_at rfl (hv _ rfl)
        | 13, _, hm, hv => gl_at rfl (hv _ rfl)
        | 14, _, hm, hv => gl_at rfl (by obtain rfl := Option.some.inj (hm.symm.trans ((hB.2.1.fld (zmp_s ar_bd (by decide)) skc_166 (k := 14) (by decide) (by decide)).trans am_s9)); exact hs9)
        | 15, _, hm, hv => gl_at rfl (hv _ rfl)
        | 16, _, hm, hv => gl_at rfl (hv _ rfl)
        | 17, _, hm, hv => gl_at rfl (hv _ rfl)
        | k + 18, hk, _, _ => absurd hk (by omega))) (fun a u ha hu => by
      obtain ⟨t9, h1, h2⟩ := zmp_e ha
      obtain rfl : t9 = 14 := (fun u h => (by decide : ∀ z ∈ ZL_s1, z.2 = 167 → z.1 = 14) (u, 167) (zt_m (L := ZL_s1) h) rfl) t9 h2
      obtain rfl : a = x := hb14 a h1
      obtain rfl : 14 = u := Option.some.inj ((show zt_r0 167 = some 14 from by decide).symm.trans hu)
      have h8 := hB.1 _ _ ha
      rw [shc_167] at h8
      rw [shc_14]
      refine gC_re h8 (fun k v hk hm hv => match k, hk, hm, hv with
        | 0, _, hm, hv => gl_at rfl (rK_R (by decide) _ _ (hv _ rfl))
        | 1, _, hm, hv => gl_at rfl (rK_R (by decide) _ _ (hv _ rfl))
        | 2, _, hm, hv => gl_at rfl (rK_R (by decide) _ _ (hv _ rfl))
        | 3, _, hm, hv => gl_at rfl (rK_R (by decide) _ _ (hv _ rfl))
        | 4, _, hm, hv => gl_at rfl (rK_R (by decide) _ _ (hv _ rfl))
        | 5, _, hm, hv => gl_at rfl (rK_R (by decide) _ _ (hv _ rfl))
        | 6, _, hm, hv => gl_at rfl (rK_N (by decide) _ _ (hv _ rfl))
        | 7, _, hm, hv => gl_at rfl (hv _ rfl)
        | 8, _, hm, hv => gl_at rfl (by obtain rfl := Option.some.inj (hm.symm.trans ((hB.2.1.fld (zmp_s hx (by decide)) skc_167 (k := 8) (by decide) (by decide)).trans am_c9)); exact hc9)
        | k + 9, hk, _, _ => absurd hk (by omega)))
    exact ⟨⟨r, (), e1, trivial, ⟨(zmp zt_r0 (zmp zt_s1 G)), nC, nS, bo, wa, wc, hT2, (zmp_2 hx (by decide)), (zmp_2 hou (by decide)), hgC, hgS, (fun b h => hb3 b (zmp_b h (fun u h => (by decide : ∀ z ∈ ZL_r0, z.2 = 3 → z.1 = 166) (u, 3) (zt_m (L := ZL_r0) h) rfl) (fun u h => (by decide : ∀ z ∈ ZL_s1, z.2 = 166 → z.1 = 3) (u, 166) (zt_m (L := ZL_s1) h) rfl))), (fun b h => hb51 b (zmp_b h (fun u h => (by decide : ∀ z ∈ ZL_r0, z.2 = 51 → z.1 = 51) (u, 51) (zt_m (L := ZL_r0) h) rfl) (fun u h => (by decide : ∀ z ∈ ZL_s1, z.2 = 51 → z.1 = 51) (u, 51) (zt_m (L := ZL_s1) h) rfl))), (fun b h => hb14 b (zmp_b h (fun u h => (by decide : ∀ z ∈ ZL_r0, z.2 = 14 → z.1 = 167) (u, 14) (zt_m (L := ZL_r0) h) rfl) (fun u h => (by decide : ∀ z ∈ ZL_s1, z.2 = 167 → z.1 = 14) (u, 167) (zt_m (L := ZL_s1) h) rfl))), (fun b h => hb17 b (zmp_b h (fun u h => (by decide : ∀ z ∈ ZL_r0, z.2 = 17 → z.1 = 17) (u, 17) (zt_m (L := ZL_r0) h) rfl) (fun u h => (by decide : ∀ z ∈ ZL_s1, z.2 = 17 → z.1 = 17) (u, 17) (zt_m (L := ZL_s1) h) rfl))), (fun a t h => by obtain ⟨u, h1, -⟩ := zmp_e h; exact hps a u h1), hX1.kept hx (fun a t h h9 => zmp_2 h ((by decide : ∀ t ∈ FT12, (zt_s1 t).bind zt_r0 = some t) t (of_decide_eq_true h9))) (fun b hb => (hB.2.1.fld (zmp_s hb (by decide)) skc_166 (k := 1) (by decide) (by decide))) (fun b hb => (hB.2.1.fld (zmp_s hb (by decide)) skc_166 (k := 2) (by decide) (by decide))) (fun b hb => (hB.2.1.fld (zmp_s hb (by decide)) skc_166 (k := 16) (by decide) (by decide))) (fun b hb => (hB.2.1.fld (zmp_s hb (by decide)) skc_5 (k := 0) (by decide) (by decide))) (fun b hb => (hB.2.1.fld (zmp_s hb (by decide)) skc_6 (k := 1) (by decide) (by decide))) (fun b hb => (hB.2.1.fld (zmp_s hb (by decide)) skc_6 (k := 4) (by decide) (by decide))) (fun b hb => (hB.2.1.fld (zmp_s hb (by decide)) skc_167 (k := 1) (by decide) (by decide))) (fun b hb => (hB.2.1.fld (zmp_s hb (by decide)) skc_167 (k := 3) (by decide) (by decide))) (fun b hb => (hB.2.1.fld (zmp_s hb (by decide)) skc_167 (k := 6) (by decide) (by decide))) (fun b hb => (hB.2.1.fld (zmp_s hb (by decide)) skc_90 (k := 1) (by decide) (by decide))) (fun b hb => (hB.2.1.fld (zmp_s hb (by decide)) skc_90 (k := 4) (by decide) (by decide))) (fun b hb => (hB.2.1.fld (zmp_s hb (by decide)) skc_93 (k := 0) (by decide) (by decide))) (fun b hb => (hB.2.1.arr (zmp_s hb (by decide)) skc_25 (by decide))) (fun b hb => (hB.2.1.arr (zmp_s hb (by decide)) skc_52 (by decide))) (fun b hb => (hB.2.1.arr (zmp_s hb (by decide)) skc_53 (by decide))) (fun b hb => (hB.2.1.arr (zmp_s hb (by decide)) skc_77 (by decide))), ⟨ta_2, bd, g.2.1.1, g.2.1.2.2.1, 0, g.2.1.2.1, (hB.2.1.fld (zmp_s hx (by decide)) skc_167 (k := 7) (by decide) (by decide)).trans am_tn_2, (hB.2.1.fld (zmp_s hx (by decide)) skc_167 (k := 0) (by decide) (by decide)).trans am_ta_2, (zmp_2 ar_ta_2 (by decide)), ac_vc_2.kept (hB.2.1.arr (zmp_s ar_ta_2 (by decide)) skc_16 (by decide)), (hB.2.1.fld (zmp_s hx (by decide)) skc_167 (k := 3) (by decide) (by decide)).trans am_bd_2, (zmp_2 ar_bd_2 (by decide)), (hB.2.1.fld (zmp_s ar_bd_2 (by decide)) skc_166 (k := 10) (by decide) (by decide)).trans am_fa_2, hB.2.2, rfl, rfl, rfl, rfl, pP.cl⟩, hX3.kept hT hgS hx (fun a t h h9 => zmp_2 h ((by decide : ∀ t ∈ FT3, (zt_s1 t).bind zt_r0 = some t) t (of_decide_eq_true h9))) (fun b hb => (hB.2.1.fld (zmp_s hb (by decide)) skc_166 (k := 0) (by decide) (by decide))) (fun b hb => (hB.2.1.fld (zmp_s hb (by decide)) skc_166 (k := 3) (by decide) (by decide))) (fun b hb => (hB.2.1.fld (zmp_s hb (by decide)) skc_166 (k := 7) (by decide) (by decide))) (fun b hb => (hB.2.1.fld (zmp_s hb (by decide)) skc_166 (k := 12) (by decide) (by decide))) (fun b hb => (hB.2.1.fld (zmp_s hb (by decide)) skc_166 (k := 13) (by decide) (by decide))) (fun b hb => (hB.2.1.fld (zmp_s hb (by decide)) skc_166 (k := 15) (by decide) (by decide))) (fun b hb => (hB.2.1.fld (zmp_s hb (by decide)) skc_7 (k := 2) (by decide) (by decide))) (fun b hb => (hB.2.1.fld (zmp_s hb (by decide)) skc_7 (k := 7) (by decide) (by decide))) (fun b hb => (hB.2.1.fld (zmp_s hb (by decide)) skc_7 (k := 8) (by decide) (by decide))) (fun b hb => (hB.2.1.fld (zmp_s hb (by decide)) skc_7 (k := 9) (by decide) (by decide))) (fun b hb => (hB.2.1.fld (zmp_s hb (by decide)) skc_7 (k := 11) (by decide) (by decide))) (fun b hb => (hB.2.1.fld (zmp_s hb (by decide)) skc_10 (k := 0) (by decide) (by decide))) (fun b hb => (hB.2.1.fld (zmp_s hb (by decide)) skc_10 (k := 1) (by decide) (by decide))) (fun b hb => (hB.2.1.fld (zmp_s hb (by decide)) skc_10 (k := 2) (by decide) (by decide))) (fun b hb => (hB.2.1.fld (zmp_s hb (by decide)) skc_10 (k := 3) (by decide) (by decide))) (fun b hb => (hB.2.1.fld (zmp_s hb (by decide)) skc_10 (k := 4) (by decide) (by decide))) (fun b hb => (hB.2.1.fld (zmp_s hb (by decide)) skc_10 (k := 6) (by decide) (by decide))) (fun b hb => (hB.2.1.fld (zmp_s hb (by decide)) skc_10 (k := 7) (by decide) (by decide))) (fun b hb => (hB.2.1.fld (zmp_s hb (by decide)) skc_10 (k := 8) (by decide) (by decide))) (fun b hb => (hB.2.1.fld (zmp_s hb (by decide)) skc_10 (k := 9) (by decide) (by decide))) (fun b hb => (hB.2.1.fld (zmp_s hb (by decide)) skc_167 (k := 3) (by decide) (by decide))) (fun b hb => (hB.2.1.arr (zmp_s hb (by decide)) skc_42 (by decide))) (fun b hb => (hB.2.1.arr (zmp_s hb (by decide)) skc_47 (by decide))) (fun b hb => (hB.2.1.arr (zmp_s hb (by decide)) skc_48 (by decide))) (fun b hb => (hB.2.1.arr (zmp_s hb (by decide)) skc_49 (by decide))) (fun b hb => (hB.2.1.arr (zmp_s hb (by decide)) skc_51 (by decide))) (fun b hb => (hB.2.1.arr (zmp_s hb (by decide)) skc_54 (by decide)))⟩⟩, hF.sub hAs⟩
  · refine Met.weak (Met.ww (ws' := w_u_close) (rm' := { frames := 8, cells := 1, slots := 6, locals := 140 }) (mc' := 1) (ms' := 6) (l_closeZG (l := l) (hlt := hlt) (dC := dC) (dI := dI) (kA := kA) (adK := adK) (adV := adV) (G := (zmp zt_s1 G)) (H0 := H0) (nC := nC) (nS := nS) (o0 := x) (ou := ou) (bd := bd) (vo := g.2.1.2.2.2) (fo := lw) (po := po) (hT := hTs) (hr_o0 := (zmp_s hx (by decide))) (hr_ou := (zmp_s hou (by decide))) (hm_bd := am_bd) (hr_bd := (zmp_s ar_bd (by decide))) (hm_vo := am_vo_2) (hm_fo := am_lw) (hr_fo := (zmp_s ar_lw (by decide))) (hm_po := am_po) (hr_po := (zmp_s ar_po (by decide))) (hq0 := pP.2) (hgC := hgC) (hgS := hgS)) u_close_2 (by decide) (by decide) (by decide) (by decide) (by decide) (by decide)) (fun a U h => ⟨h.1, h.2.1, h.2.2.1, EVC.narrow h.2.2.2.1 hAs, h.2.2.2.2.1⟩) (fun a st oc t _ h => ?_) hAs
    obtain ⟨⟨r, ⟨v1, fo1, po1⟩, e1, hp, hB⟩, hF⟩ := h
    (try dsimp only at hp hB)
    obtain ⟨-, hp1, hp2⟩ := hp
    have e3 : v1 = 0 := Int32.toInt_inj.mp (hp1.trans (by decide : (0 : Int) = (0 : Int32).toInt))
    rw [e3] at hB
    rcases hp2 with ⟨rfl, rfl⟩ | ⟨rfl, rfl⟩
    · skip
      obtain ⟨_, am_s9, h9⟩ := gH_fld hT ar_bd shc_3 (k := 14) (by decide); have hs9 := h9 _ rfl; obtain ⟨_, am_c9, h9⟩ := gH_fld hT hx shc_14 (k := 8) (by decide); have hc9 := h9 _ rfl
      have hT2 : gH (dC, dI) kA (SHc nC nS) (zmp zt_r0 (zmp zt_s1 G)) t.heap := gH_un (f := zt_r0) (b := 166) (c := 167) hB.1 rs_r0 (fun a u ha hu => by
        obtain ⟨t9, h1, h2⟩ := zmp_e ha
        obtain rfl : t9 = 3 := (fun u h => (by decide : ∀ z ∈ ZL_s1, z.2 = 166 → z.1 = 3) (u, 166) (zt_m (L := ZL_s1) h) rfl) t9 h2
        obtain rfl : a = bd := (hb3 a h1).trans (hb3 bd ar_bd).symm
        obtain rfl : 3 = u := Option.some.inj ((show zt_r0 166 = some 3 from by decide).symm.trans hu)
        have h8 := hB.1 _ _ ha
        rw [shc_166] at h8
        rw [shc_3]
        refine gC_re h8 (fun k v hk hm hv => match k, hk, hm, hv with
          | 0, _, hm, hv => gl_at rfl (rK_R (by decide) _ _ (hv _ rfl))
          | 1, _, hm, hv => gl_at rfl (rK_R (by decide) _ _ (hv _ rfl))
          | 2, _, hm, hv => gl_at rfl (rK_R (by decide) _ _ (hv _ rfl))
          | 3, _, hm, hv => gl_at rfl (rK_R (by decide) _ _ (hv _ rfl))
          | 4, _, hm, hv => gl_at rfl (rK_R (by decide) _ _ (hv _ rfl))
          | 5, _, hm, hv => gl_at rfl (rK_R (by decide) _ _ (hv _ rfl))
          | 6, _, hm, hv => gl_at rfl (rK_R (by decide) _ _ (hv _ rfl))
          | 7, _, hm, hv => gl_at rfl (by obtain rfl := Option.some.inj (hm.symm.trans hB.2.2.2.1); exact ⟨_, rfl, (zmp_2 ar_lw (by decide))⟩)
          | 8, _, hm, hv => gl_at rfl (by obtain rfl := Option.some.inj (hm.symm.trans hB.2.2.2.2); exact ⟨_, rfl, (zmp_2 ar_po (by decide))⟩)
          | 9, _, hm, hv => gl_at rfl (by obtain rfl := Option.some.inj (hm.symm.trans ((hB.2.1.fld (zmp_s ar_bd (by decide)) skc_166 (k := 9) (by decide) (by decide)).trans am_sp)); exact ⟨_, rfl, (zmp_2 ar_sp (by decide))⟩)
          | 10, _, hm, hv => gl_at rfl (hv _ rfl)
          | 11, _, hm, hv => gl_at rfl (hv _ rfl)
          | 12, _, hm, hv => gl_at rfl (hv _ rfl)
          | 13, _, hm, hv => gl_at rfl (hv _ rfl)
          | 14, _, hm, hv => gl_at rfl (by obtain rfl := Option.some.inj (hm.symm.trans ((hB.2.1.fld (zmp_s ar_bd (by decide)) skc_166 (k := 14) (by decide) (by decide)).trans am_s9)); exact hs9)
          | 15, _, hm, hv => gl_at rfl (hv _ rfl)
          | 16, _, hm, hv => gl_at rfl (hv _ rfl)
          | 17, _, hm, hv => gl_at rfl (hv _ rfl)
          | k + 18, hk, _, _ => absurd hk (by omega))) (fun a u ha hu => by
        obtain ⟨t9, h1, h2⟩ := zmp_e ha
        obtain rfl : t9 = 14 := (fun u h => (by decide : ∀ z ∈ ZL_s1, z.2 = 167 → z.1 = 14) (u, 167) (zt_m (L := ZL_s1) h) rfl) t9 h2
        obtain rfl : a = x := hb14 a h1
        obtain rfl : 14 = u := Option.some.inj ((show zt_r0 167 = some 14 from by decide).symm.trans hu)
        have h8 := hB.1 _ _ ha
        rw [shc_167] at h8
        rw [shc_14]
        refine gC_re h8 (fun k v hk hm hv => match k, hk, hm, hv with
          | 0, _, hm, hv => gl_at rfl (rK_R (by decide) _ _ (hv _ rfl))
          | 1, _, hm, hv => gl_at rfl (rK_R (by decide) _ _ (hv _ rfl))
          | 2, _, hm, hv => gl_at rfl (rK_R (by decide) _ _ (hv _ rfl))
          | 3, _, hm, hv => gl_at rfl (rK_R (by decide) _ _ (hv _ rfl))
          | 4, _, hm, hv => gl_at rfl (rK_R (by decide) _ _ (hv _ rfl))
          | 5, _, hm, hv => gl_at rfl (rK_R (by decide) _ _ (hv _ rfl))
          | 6, _, hm, hv => gl_at rfl (rK_N (by decide) _ _ (hv _ rfl))
          | 7, _, hm, hv => gl_at rfl (hv _ rfl)
          | 8, _, hm, hv => gl_at rfl (by obtain rfl := Option.some.inj (hm.symm.trans ((hB.2.1.fld (zmp_s hx (by decide)) skc_167 (k := 8) (by decide) (by decide)).trans am_c9)); exact hc9)
          | k + 9, hk, _, _ => absurd hk (by omega)))
      exact ⟨⟨r, (), e1, trivial, ⟨(zmp zt_r0 (zmp zt_s1 G)), nC, nS, bo, wa, wc, hT2, (zmp_2 hx (by decide)), (zmp_2 hou (by decide)), hgC, hgS, (fun b h => hb3 b (zmp_b h (fun u h => (by decide : ∀ z ∈ ZL_r0, z.2 = 3 → z.1 = 166) (u, 3) (zt_m (L := ZL_r0) h) rfl) (fun u h => (by decide : ∀ z ∈ ZL_s1, z.2 = 166 → z.1 = 3) (u, 166) (zt_m (L := ZL_s1) h) rfl))), (fun b h => hb51 b (zmp_b h (fun u h => (by decide : ∀ z ∈ ZL_r0, z.2 = 51 → z.1 = 51) (u, 51) (zt_m (L := ZL_r0) h) rfl) (fun u h => (by decide : ∀ z ∈ ZL_s1, z.2 = 51 → z.1 = 51) (u, 51) (zt_m (L := ZL_s1) h) rfl))), (fun b h => hb14 b (zmp_b h (fun u h => (by decide : ∀ z ∈ ZL_r0, z.2 = 14 → z.1 = 167) (u, 14) (zt_m (L := ZL_r0) h) rfl) (fun u h => (by decide : ∀ z ∈ ZL_s1, z.2 = 167 → z.1 = 14) (u, 167) (zt_m (L := ZL_s1) h) rfl))), (fun b h => hb17 b (zmp_b h (fun u h => (by decide : ∀ z ∈ ZL_r0, z.2 = 17 → z.1 = 17) (u, 17) (zt_m (L := ZL_r0) h) rfl) (fun u h => (by decide : ∀ z ∈ ZL_s1, z.2 = 17 → z.1 = 17) (u, 17) (zt_m (L := ZL_s1) h) rfl))), (fun a t h => by obtain ⟨u, h1, -⟩ := zmp_e h; exact hps a u h1), hX1.kept hx (fun a t h h9 => zmp_2 h ((by decide : ∀ t ∈ FT12, (zt_s1 t).bind zt_r0 = some t) t (of_decide_eq_true h9))) (fun b hb => (hB.2.1.fld (zmp_s hb (by decide)) skc_166 (k := 1) (by decide) (by decide))) (fun b hb => (hB.2.1.fld (zmp_s hb (by decide)) skc_166 (k := 2) (by decide) (by decide))) (fun b hb => (hB.2.1.fld (zmp_s hb (by decide)) skc_166 (k := 16) (by decide) (by decide))) (fun b hb => (hB.2.1.fld (zmp_s hb (by decide)) skc_5 (k := 0) (by decide) (by decide))) (fun b hb => (hB.2.1.fld (zmp_s hb (by decide)) skc_6 (k := 1) (by decide) (by decide))) (fun b hb => (hB.2.1.fld (zmp_s hb (by decide)) skc_6 (k := 4) (by decide) (by decide))) (fun b hb => (hB.2.1.fld (zmp_s hb (by decide)) skc_167 (k := 1) (by decide) (by decide))) (fun b hb => (hB.2.1.fld (zmp_s hb (by decide)) skc_167 (k := 3) (by decide) (by decide))) (fun b hb => (hB.2.1.fld (zmp_s hb (by decide)) skc_167 (k := 6) (by decide) (by decide))) (fun b hb => (hB.2.1.fld (zmp_s hb (by decide)) skc_90 (k := 1) (by decide) (by decide))) (fun b hb => (hB.2.1.fld (zmp_s hb (by decide)) skc_90 (k := 4) (by decide) (by decide))) (fun b hb => (hB.2.1.fld (zmp_s hb (by decide)) skc_93 (k := 0) (by decide) (by decide))) (fun b hb => (hB.2.1.arr (zmp_s hb (by decide)) skc_25 (by decide))) (fun b hb => (hB.2.1.arr (zmp_s hb (by decide)) skc_52 (by decide))) (fun b hb => (hB.2.1.arr (zmp_s hb (by decide)) skc_53 (by decide))) (fun b hb => (hB.2.1.arr (zmp_s hb (by decide)) skc_77 (by decide))), ⟨ta_2, bd, g.2.1.1, g.2.1.2.2.1, 0, g.2.1.2.1, (hB.2.1.fld (zmp_s hx (by decide)) skc_167 (k := 7) (by decide) (by decide)).trans am_tn_2, (hB.2.1.fld (zmp_s hx (by decide)) skc_167 (k := 0) (by decide) (by decide)).trans am_ta_2, (zmp_2 ar_ta_2 (by decide)), ac_vc_2.kept (hB.2.1.arr (zmp_s ar_ta_2 (by decide)) skc_16 (by decide)), (hB.2.1.fld (zmp_s hx (by decide)) skc_167 (k := 3) (by decide) (by decide)).trans am_bd_2, (zmp_2 ar_bd_2 (by decide)), (hB.2.1.fld (zmp_s ar_bd_2 (by decide)) skc_166 (k := 10) (by decide) (by decide)).trans am_fa_2, hB.2.2.1, rfl, rfl, rfl, rfl, pP.cl⟩, HX3.mk1 hT2 (zmp_2 hx (by decide)) pn hb1 ((hB.2.1.fld (zmp_s hx (by decide)) skc_167 (k := 3) (by decide) (by decide)).trans am_bd) (zmp_2 ar_bd (by decide)) ((hB.2.1.fld (zmp_s ar_bd (by decide)) skc_166 (k := 3) (by decide) (by decide)).trans am_hd9) (zmp_2 ar_hd9 (by decide)) (ac_vh.kept (hB.2.1.arr (zmp_s ar_hd9 (by decide)) skc_54 (by decide))) ((hB.2.1.fld (zmp_s ar_bd (by decide)) skc_166 (k := 15) (by decide) (by decide)).trans am_hl) pct z1⟩⟩, hF.sub hAs⟩
    · skip
      obtain ⟨_, am_s9, h9⟩ := gH_fld hT ar_bd shc_3 (k := 14) (by decide); have hs9 := h9 _ rfl; obtain ⟨_, am_c9, h9⟩ := gH_fld hT hx shc_14 (k := 8) (by decide); have hc9 := h9 _ rfl
      have hT2 : gH (dC, dI) kA (SHc nC nS) (zmp zt_rC (zmp zt_s1 G)) t.heap := gH_un (f := zt_rC) (b := 166) (c := 167) hB.1 rs_rC (fun a u ha hu => by
        obtain ⟨t9, h1, h2⟩ := zmp_e ha
        obtain rfl : t9 = 3 := (fun u h => (by decide : ∀ z ∈ ZL_s1, z.2 = 166 → z.1 = 3) (u, 166) (zt_m (L := ZL_s1) h) rfl) t9 h2
        obtain rfl : a = bd := (hb3 a h1).trans (hb3 bd ar_bd).symm
        obtain rfl : 3 = u := Option.some.inj ((show zt_rC 166 = some 3 from by decide).symm.trans hu)
        have h8 := hB.1 _ _ ha
        rw [shc_166] at h8
        rw [shc_3]
        refine gC_re h8 (fun k v hk hm hv => match k, hk, hm, hv with
          | 0, _, hm, hv => gl_at rfl (rK_R (by decide) _ _ (hv _ rfl))
          | 1, _, hm, hv => gl_at rfl (rK_R (by decide) _ _ (hv _ rfl))
          | 2, _, hm, hv => gl_at rfl (rK_R (by decide) _ _ (hv _ rfl))
          | 3, _, hm, hv => gl_at rfl (rK_R (by decide) _ _ (hv _ rfl))
          | 4, _, hm, hv => gl_at rfl (rK_R (by decide) _ _ (hv _ rfl))
          | 5, _, hm, hv => gl_at rfl (rK_R (by decide) _ _ (hv _ rfl))
          | 6, _, hm, hv => gl_at rfl (rK_R (by decide) _ _ (hv _ rfl))
          | 7, _, hm, hv => gl_at rfl (by obtain rfl := Option.some.inj (hm.symm.trans hB.2.2.2.1); exact ⟨_, rfl, (zmp_2 ar_po (by decide))⟩)
          | 8, _, hm, hv => gl_at rfl (by obtain rfl := Option.some.inj (hm.symm.trans hB.2.2.2.2); exact ⟨_, rfl, (zmp_2 ar_lw (by decide))⟩)
          | 9, _, hm, hv => gl_at rfl (by obtain rfl := Option.some.inj (hm.symm.trans ((hB.2.1.fld (zmp_s ar_bd (by decide)) skc_166 (k := 9) (by decide) (by decide)).trans am_sp)); exact ⟨_, rfl, (zmp_2 ar_sp (by decide))⟩)
          | 10, _, hm, hv => gl_at rfl (hv _ rfl)
          | 11, _, hm, hv => gl_at rfl (hv _ rfl)
          | 12, _, hm, hv => gl_at rfl (hv _ rfl)
          | 13, _, hm, hv => gl_at rfl (hv _ rfl)
          | 14, _, hm, hv => gl_at rfl (by obtain rfl := Option.some.inj (hm.symm.trans ((hB.2.1.fld (zmp_s ar_bd (by decide)) skc_166 (k := 14) (by decide) (by decide)).trans am_s9)); exact hs9)
          | 15, _, hm, hv => gl_at rfl (hv _ rfl)
          | 16, _, hm, hv => gl_at rfl (hv _ rfl)
          | 17, _, hm, hv => gl_at rfl (hv _ rfl)
          | k + 18, hk, _, _ => absurd hk (by omega))) (fun a u ha hu => by
        obtain ⟨t9, h1, h2⟩ := zmp_e ha
        obtain rfl : t9 = 14 := (fun u h => (by decide : ∀ z ∈ ZL_s1, z.2 = 167 → z.1 = 14) (u, 167) (zt_m (L := ZL_s1) h) rfl) t9 h2
        obtain rfl : a = x := hb14 a h1
        obtain rfl : 14 = u := Option.some.inj ((show zt_rC 167 = some 14 from by decide).symm.trans hu)
        have h8 := hB.1 _ _ ha
        rw [shc_167] at h8
        rw [shc_14]
        refine gC_re h8 (fun k v hk hm hv => match k, hk, hm, hv with
          | 0, _, hm, hv => gl_at rfl (rK_R (by decide) _ _ (hv _ rfl))
          | 1, _, hm, hv => gl_at rfl (rK_R (by decide) _ _ (hv _ rfl))
          | 2, _, hm, hv => gl_at rfl (rK_R (by decide) _ _ (hv _ rfl))
          | 3, _, hm, hv => gl_at rfl (rK_R (by decide) _ _ (hv _ rfl))
          | 4, _, hm, hv => gl_at rfl (rK_R (by decide) _ _ (hv _ rfl))
          | 5, _, hm, hv => gl_at rfl (rK_R (by decide) _ _ (hv _ rfl))
          | 6, _, hm, hv => gl_at rfl (rK_N (by decide) _ _ (hv _ rfl))
          | 7, _, hm, hv => gl_at rfl (hv _ rfl)
          | 8, _, hm, hv => gl_at rfl (by obtain rfl := Option.some.inj (hm.symm.trans ((hB.2.1.fld (zmp_s hx (by decide)) skc_167 (k := 8) (by decide) (by decide)).trans am_c9)); exact hc9)
          | k + 9, hk, _, _ => absurd hk (by omega)))
      exact ⟨⟨r, (), e1, trivial, ⟨(zmp zt_rC (zmp zt_s1 G)), nC, nS, bo, wa, wc, hT2, (zmp_2 hx (by decide)), (zmp_2 hou (by decide)), hgC, hgS, (fun b h => hb3 b (zmp_b h (fun u h => (by decide : ∀ z ∈ ZL_rC, z.2 = 3 → z.1 = 166) (u, 3) (zt_m (L := ZL_rC) h) rfl) (fun u h => (by decide : ∀ z ∈ ZL_s1, z.2 = 166 → z.1 = 3) (u, 166) (zt_m (L := ZL_s1) h) rfl))), (fun b h => hb51 b (zmp_b h (fun u h => (by decide : ∀ z ∈ ZL_rC, z.2 = 51 → z.1 = 51) (u, 51) (zt_m (L := ZL_rC) h) rfl) (fun u h => (by decide : ∀ z ∈ ZL_s1, z.2 = 51 → z.1 = 51) (u, 51) (zt_m (L := ZL_s1) h) rfl))), (fun b h => hb14 b (zmp_b h (fun u h => (by decide : ∀ z ∈ ZL_rC, z.2 = 14 → z.1 = 167) (u, 14) (zt_m (L := ZL_rC) h) rfl) (fun u h => (by decide : ∀ z ∈ ZL_s1, z.2 = 167 → z.1 = 14) (u, 167) (zt_m (L := ZL_s1) h) rfl))), (fun b h => hb17 b (zmp_b h (fun u h => (by decide : ∀ z ∈ ZL_rC, z.2 = 17 → z.1 = 17) (u, 17) (zt_m (L := ZL_rC) h) rfl) (fun u h => (by decide : ∀ z ∈ ZL_s1, z.2 = 17 → z.1 = 17) (u, 17) (zt_m (L := ZL_s1) h) rfl))), (fun a t h => by obtain ⟨u, h1, -⟩ := zmp_e h; exact hps a u h1), hX1.kept hx (fun a t h h9 => zmp_2 h ((by decide : ∀ t ∈ FT12, (zt_s1 t).bind zt_rC = some t) t (of_decide_eq_true h9))) (fun b hb => (hB.2.1.fld (zmp_s hb (by decide)) skc_166 (k := 1) (by decide) (by decide))) (fun b hb => (hB.2.1.fld (zmp_s hb (by decide)) skc_166 (k := 2) (by decide) (by decide))) (fun b hb => (hB.2.1.fld (zmp_s hb (by decide)) skc_166 (k := 16) (by decide) (by decide))) (fun b hb => (hB.2.1.fld (zmp_s hb (by decide)) skc_5 (k := 0) (by decide) (by decide))) (fun b hb => (hB.2.1.fld (zmp_s hb (by decide)) skc_6 (k := 1) (by decide) (by decide))) (fun b hb => (hB.2.1.fld (zmp_s hb (by decide)) skc_6 (k := 4) (by decide) (by decide))) (fun b hb => (hB.2.1.fld (zmp_s hb (by decide)) skc_167 (k := 1) (by decide) (by decide))) (fun b hb => (hB.2.1.fld (zmp_s hb (by decide)) skc_167 (k := 3) (by decide) (by decide))) (fun b hb => (hB.2.1.fld (zmp_s hb (by decide)) skc_167 (k := 6) (by decide) (by decide))) (fun b hb => (hB.2.1.fld (zmp_s hb (by decide)) skc_90 (k := 1) (by decide) (by decide))) (fun b hb => (hB.2.1.fld (zmp_s hb (by decide)) skc_90 (k := 4) (by decide) (by decide))) (fun b hb => (hB.2.1.fld (zmp_s hb (by decide)) skc_93 (k := 0) (by decide) (by decide))) (fun b hb => (hB.2.1.arr (zmp_s hb (by decide)) skc_25 (by decide))) (fun b hb => (hB.2.1.arr (zmp_s hb (by decide)) skc_52 (by decide))) (fun b hb => (hB.2.1.arr (zmp_s hb (by decide)) skc_53 (by decide))) (fun b hb => (hB.2.1.arr (zmp_s hb (by decide)) skc_77 (by decide))), ⟨ta_2, bd, g.2.1.1, g.2.1.2.2.1, 0, g.2.1.2.1, (hB.2.1.fld (zmp_s hx (by decide)) skc_167 (k := 7) (by decide) (by decide)).trans am_tn_2, (hB.2.1.fld (zmp_s hx (by decide)) skc_167 (k := 0) (by decide) (by decide)).trans am_ta_2, (zmp_2 ar_ta_2 (by decide)), ac_vc_2.kept (hB.2.1.arr (zmp_s ar_ta_2 (by decide)) skc_16 (by decide)), (hB.2.1.fld (zmp_s hx (by decide)) skc_167 (k := 3) (by decide) (by decide)).trans am_bd_2, (zmp_2 ar_bd_2 (by decide)), (hB.2.1.fld (zmp_s ar_bd_2 (by decide)) skc_166 (k := 10) (by decide) (by decide)).trans am_fa_2, hB.2.2.1, rfl, rfl, rfl, rfl, pP.cl⟩, HX3.mk1 hT2 (zmp_2 hx (by decide)) pn hb1 ((hB.2.1.fld (zmp_s hx (by decide)) skc_167 (k := 3) (by decide) (by decide)).trans am_bd) (zmp_2 ar_bd (by decide)) ((hB.2.1.fld (zmp_s ar_bd (by decide)) skc_166 (k := 3) (by decide) (by decide)).trans am_hd9) (zmp_2 ar_hd9 (by decide)) (ac_vh.kept (hB.2.1.arr (zmp_s ar_hd9 (by decide)) skc_54 (by decide))) ((hB.2.1.fld (zmp_s ar_bd (by decide)) skc_166 (k := 15) (by decide) (by decide)).trans am_hl) pct z1⟩⟩, hF.sub hAs⟩
