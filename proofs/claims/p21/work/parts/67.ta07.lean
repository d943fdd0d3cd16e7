set_option maxHeartbeats 4000000 in
set_option maxRecDepth 100000 in
theorem c_giveFarmsZ (l : Launch) (dC : Nat → ClassId) (dI : Nat → Nat → Nat) (kA : Nat → ClassId) (adK adV : Nat → Nat) (G : gT) (H0 : Heap) (nC nS : Int) (o0 : Nat) (p0 : Int32) (p1 : Nat) (mk9 : Nat) (hd9 : Nat) (sA : Nat) (fm : Int32) (fa9 : Nat) (hl : Int32) (lw : Nat) (kn : Nat) (ln : Int32) (sf : Nat) (sto : Nat) (stp9 : Nat) (stk : Nat) (vM0 : Nat → Int32) (vh : Nat → Int32) (vK : Nat → Int32) (vF : Nat → Int32) (vT : Nat → Int32) (vS : Nat → Int32) (vQ : Nat → Int64) (fL : Nat → Int64) (A9 : zAl) (vA vD vC vU vI vW : Nat → Int32) (hT : gH (dC, dI) kA (SHc nC nS) G H0) (hr_p1 : G p1 = some 6) (hr_o0 : G o0 = some 3) (hm_mk9 : el H0 o0 (dI 3 6) = some (.ref mk9)) (hr_mk9 : G mk9 = some 57) (hm_hd9 : el H0 o0 (dI 3 3) = some (.ref hd9)) (hr_hd9 : G hd9 = some 54) (hm_sA : el H0 o0 (dI 3 0) = some (.ref sA)) (hr_sA : G sA = some 51) (hm_fm : el H0 o0 (dI 3 16) = some (.int fm)) (hm_fa9 : el H0 o0 (dI 3 5) = some (.ref fa9)) (hr_fa9 : G fa9 = some 56) (hm_hl : el H0 o0 (dI 3 15) = some (.int hl)) (hm_lw : el H0 o0 (dI 3 7) = some (.ref lw)) (hr_lw : G lw = some 7) (hm_kn : el H0 lw (dI 7 2) = some (.ref kn)) (hr_kn : G kn = some 42) (hm_ln : el H0 lw (dI 7 11) = some (.int ln)) (hm_sf : el H0 lw (dI 7 7) = some (.ref sf)) (hr_sf : G sf = some 47) (hm_sto : el H0 lw (dI 7 8) = some (.ref sto)) (hr_sto : G sto = some 48) (hm_stp9 : el H0 lw (dI 7 9) = some (.ref stp9)) (hr_stp9 : G stp9 = some 49) (hm_stk : el H0 lw (dI 7 10) = some (.ref stk)) (hr_stk : G stk = some 50) (hq0 : 0 ≤ p0.toInt ∧ p0.toInt ≤ 60) (hq1 : 0 ≤ fm.toInt ∧ fm.toInt ≤ 30) (hq2 : 0 ≤ hl.toInt ∧ hl.toInt ≤ 0) (hq3 : 0 ≤ ln.toInt ∧ ln.toInt ≤ 20) (hnh : ∀ f : Nat, f < 30 → (vh f).toInt = 0) (hct : zct vh 30 = 0) (hFS : ∀ i : Nat, ((i : Nat) : Int) < nS → ∀ a : Nat, el H0 sA i = some (.ref a) → zSf dI H0 a (vA i) (vD i) (vC i) (vU i) (vI i) (vW i)) (hrp : zRp A9 vK vF vT (tz vS) 400) (hzk : ∀ e ∈ A9, zok e.2) (hln : ((A9.length : Nat) : Int) = ln.toInt) (hc_vM0 : ct H0 mk9 60 vM0) (hc_vh : ct H0 hd9 30 vh) (hc_vK : ct H0 kn 20 vK) (hc_vF : ct H0 sf 20 vF) (hc_vT : ct H0 sto 20 vT) (hc_vS : ct H0 stp9 400 vS) (hc_vQ : ctl H0 stk 20 vQ) (hc_fL : ctl H0 fa9 10 fL) (hgC : 0 ≤ nC ∧ nC ≤ 40) (hgS : 0 ≤ nS ∧ nS ≤ 60) : Met l yX0_giveFarms w_c_giveFarmsZ ({ frames := 5, cells := 0, slots := 0, locals := 135 }) (va_Pc [.ref o0, .int p0, .ref p1] (fun U => U.heap = H0 ∧ va_K (dC, dI) vwCl (tyl kA) U ∧ EVC adK adV (gA G H0.size) U U.heap)) (va_Qi (fun (r : Int32) (u : Int32 × (Nat → Int32)) => match u with | (hl1, vh1) => (0 ≤ r.toInt ∧ r.toInt ≤ 60) ∧ ((0 < r.toInt ∧ ((1 ≤ p0.toInt ∧ p0.toInt ≤ 60) ∧ 0 < fm.toInt ∧ zNO (zLs (fun _ => 0) vA vD vC vU vI vW (fun _ => 0)) A9 nS)) ∨ (r.toInt = 0 ∧ ¬ ((1 ≤ p0.toInt ∧ p0.toInt ≤ 60) ∧ 0 < fm.toInt ∧ zNO (zLs (fun _ => 0) vA vD vC vU vI vW (fun _ => 0)) A9 nS) ∧ vh = vh1)) ∧ (hl1.toInt = r.toInt ∧ zct vh1 30 = hl1.toInt)) (fun (u : Int32 × (Nat → Int32)) (t : State) => match u with | (hl1, vh1) => gH (dC, dI) kA (SHc nC nS) G t.heap ∧ gF (dC, dI) SKc G ([(3, 15), (10, 7), (50, 0), (54, 0), (56, 0), (57, 0)] : List (Nat × Nat)) H0 t.heap ∧ el t.heap o0 (dI 3 15) = some (.int hl1) ∧ ct t.heap hd9 30 vh1 ∧ (hl1 = 0 → gF (dC, dI) SKc G ([(3, 15), (50, 0), (56, 0), (57, 0)] : List (Nat × Nat)) H0 t.heap)) (gA G H0.size)) 0 0 (gA G H0.size) := by
  refine Met.ofW (cc := cX0_giveFarms) (maxL := 7) (ret := (some .int)) (by decide) rfl ?_
  intro p e s m args below meth c s₁ B hml hv
  obtain ⟨rfl, hH0, hK, hE⟩ := hv
  have hx := B.exec
  have hb := B.bytes
  have hr := B.returns
  have hts := atoms_spec (ws := w_c_giveFarmsZ) B.pre
  have hown : s.vm.findClass RX0 = some m.cls := findClass_of_methodNamed B.named
  have hlocks := B.notSynchronized
  subst hH0
  generalize hAe : gA G s.heap.size = A at hE ⊢
  have hA : ∀ q : Nat, s.heap.size ≤ q → A q := fun q h => by rw [← hAe]; exact Or.inr h
  have hG := gA_of hAe
  have hS : va_S A s.heap s.heap [] := va_S.rf
  have hF : gF (dC, dI) SKc G ([(3, 15), (10, 7), (50, 0), (54, 0), (56, 0), (57, 0)] : List (Nat × Nat)) s.heap s.heap := gF.rf
  have hl := lv_entry ([.ref o0, .int p0, .ref p1]) (n := 7) (Nat.le_of_ble_eq_true rfl)
  rw [lg_entry_eq]
  generalize (lg_sl ([.ref o0, .int p0, .ref p1]) ++ List.replicate (7 - (lg_sl ([.ref o0, .int p0, .ref p1])).length) Slot.unset).toArray = ls at hl ⊢
  have hl : lv_has ls 7 [(0, .ref o0), (1, .int p0), (2, .ref p1)] := hl
  have hF2 : gF (dC, dI) SKc G ([(3, 15), (50, 0), (56, 0), (57, 0)] : List (Nat × Nat)) s.heap s.heap := gF.rf
  refine lv_iconst (v := 0) hx hb dX0_giveFarms_0 (by decide) ?_
  refine lv_istore_n (lv' := [(3, .int 0), (0, .ref o0), (1, .int p0), (2, .ref p1)]) hx hb dX0_giveFarms_1 rfl hl (by decide) rfl (fun ls hl => ?_)
  have key1162 : ∀ (n1162 i1 : Nat), i1 + n1162 = 60 → 0 ≤ i1 → ∀ (V2 : Nat → Int32), ((zPm (zLs (fun _ => 0) vA vD vC vU vI vW (fun _ => 0)) A9 V2 i1) ∧ (((i1 : Nat) : Int) ≤ nS)) → ∀ (H : Heap) (locs : List Loc), gH (dC, dI) kA (SHc nC nS) G H → gF (dC, dI) SKc G ([(3, 15), (10, 7), (50, 0), (54, 0), (56, 0), (57, 0)] : List (Nat × Nat)) s.heap H → (gF (dC, dI) SKc G ([(3, 15), (50, 0), (56, 0), (57, 0)] : List (Nat × Nat)) s.heap H) → va_S A s.heap H locs → ct H mk9 60 V2 → ct H hd9 30 vh → ct H kn 20 vK → ct H sf 20 vF → ct H sto 20 vT → ct H stp9 400 vS → el H o0 (dI 3 6) = some (.ref mk9) → el H o0 (dI 3 3) = some (.ref hd9) → el H o0 (dI 3 0) = some (.ref sA) → el H o0 (dI 3 16) = some (.int fm) → el H o0 (dI 3 5) = some (.ref fa9) → el H o0 (dI 3 15) = some (.int hl) → el H o0 (dI 3 7) = some (.ref lw) → el H lw (dI 7 2) = some (.ref kn) → el H lw (dI 7 11) = some (.int ln) → el H lw (dI 7 7) = some (.ref sf) → el H lw (dI 7 8) = some (.ref sto) → el H lw (dI 7 9) = some (.ref stp9) → el H lw (dI 7 10) = some (.ref stk) → ∀ ls : Array Slot, lv_has ls 7 [(3, .int (nI i1)), (0, .ref o0), (1, .int p0), (2, .ref p1)] → W p l e (headSpec w_c_giveFarmsZ ({ frames := 5, cells := 0, slots := 0, locals := 135 })).room s m #[.ref o0, .int p0, .ref p1] below meth c H locs 0 0 (MQ below (va_Qi (fun (r : Int32) (u : Int32 × (Nat → Int32)) => match u with | (hl1, vh1) => (0 ≤ r.toInt ∧ r.toInt ≤ 60) ∧ ((0 < r.toInt ∧ ((1 ≤ p0.toInt ∧ p0.toInt ≤ 60) ∧ 0 < fm.toInt ∧ zNO (zLs (fun _ => 0) vA vD vC vU vI vW (fun _ => 0)) A9 nS)) ∨ (r.toInt = 0 ∧ ¬ ((1 ≤ p0.toInt ∧ p0.toInt ≤ 60) ∧ 0 < fm.toInt ∧ zNO (zLs (fun _ => 0) vA vD vC vU vI vW (fun _ => 0)) A9 nS) ∧ vh = vh1)) ∧ (hl1.toInt = r.toInt ∧ zct vh1 30 = hl1.toInt)) (fun (u : Int32 × (Nat → Int32)) (t : State) => match u with | (hl1, vh1) => gH (dC, dI) kA (SHc nC nS) G t.heap ∧ gF (dC, dI) SKc G ([(3, 15), (10, 7), (50, 0), (54, 0), (56, 0), (57, 0)] : List (Nat × Nat)) s.heap t.heap ∧ el t.heap o0 (dI 3 15) = some (.int hl1) ∧ ct t.heap hd9 30 vh1 ∧ (hl1 = 0 → gF (dC, dI) SKc G ([(3, 15), (50, 0), (56, 0), (57, 0)] : List (Nat × Nat)) s.heap t.heap)) A) #[.ref o0, .int p0, .ref p1] s 0 0 A) (F0 m 2 ls []) := by
    intro n1162
    induction n1162 with
    | zero =>
      intro i1 hn1162 hlo1163 V2 ⟨hj22, hj23⟩ H locs hT hF hF2 hS m3 m4 m5 m6 m7 m8 m9 m10 m11 m12 m13 m14 m15 m16 m17 m18 m19 m20 m21 ls hl
      obtain rfl : 60 = i1 := by omega
      refine lv_iload_n hx hb dX0_giveFarms_2 rfl (lv_at hl 0 rfl) ?_
      refine lv_aload_n hx hb dX0_giveFarms_3 rfl (lv_at hl 1 rfl) ?_
      refine tw_get hx hb hts bF2_X0 hown hK hT hr_o0 shc_3 rfl 14 (by decide) (ht_at2 hts 0 rfl) (fun _ h9 => h9) dX0_giveFarms_4 (fun v9 m1164 h9 => ?_)
      obtain ⟨x1165, rfl, gx1165, kx1165⟩ := h9 _ rfl
      refine lv_icmp_ge (tgt := 76) hx hb dX0_giveFarms_7 (by decide) (fun c1166 => ?_) (fun c1166 => (by exfalso; have q9 : ((60 : Nat) : Int) < x1165.toInt := ti_nle c1166 rfl (nI_toInt (by omega)); omega))
      have t1167 : x1165.toInt ≤ ((60 : Nat) : Int) := ti_le c1166 rfl (nI_toInt (by omega))
      refine lv_iconst (v := 0) hx hb dX0_giveFarms_76 (by decide) ?_
      refine lv_istore_n (lv' := [(3, .int 0), (0, .ref o0), (1, .int p0), (2, .ref p1)]) hx hb dX0_giveFarms_77 rfl hl (by decide) rfl (fun ls hl => ?_)
      refine lv_iconst (v := 0) hx hb dX0_giveFarms_78 (by decide) ?_
      refine lv_istore (lv' := [(4, .int 0), (3, .int 0), (0, .ref o0), (1, .int p0), (2, .ref p1)]) hx hb dX0_giveFarms_79 hl (by decide) rfl (fun ls hl => ?_)
      have key1618 : ∀ (n1618 i1168 : Nat), i1168 + n1618 = 60 → 0 ≤ i1168 → ∀ (z1169 : Int32), ∀ (V1171 : Nat → Int32), ∀ (V1173 : Nat → Int32), ((0 ≤ z1169.toInt ∧ z1169.toInt ≤ 60) ∧ ((zct V1173 30 = z1169.toInt) ∧ ((((i1168 : Nat) : Int) = 0 ∧ z1169.toInt = 0 ∧ vh = V1173 ∧ zPm (zLs (fun _ => 0) vA vD vC vU vI vW (fun _ => 0)) A9 V1171 nS.toNat) ∨ (1 ≤ ((i1168 : Nat) : Int) ∧ 1 ≤ z1169.toInt ∧ 0 < fm.toInt ∧ zNO (zLs (fun _ => 0) vA vD vC vU vI vW (fun _ => 0)) A9 nS))) ∧ (0 ≤ z1169.toInt ∧ z1169.toInt ≤ ((i1168 : Nat) : Int))) → ∀ (H : Heap) (locs : List Loc), gH (dC, dI) kA (SHc nC nS) G H → gF (dC, dI) SKc G ([(3, 15), (10, 7), (50, 0), (54, 0), (56, 0), (57, 0)] : List (Nat × Nat)) s.heap H → (i1168 = 0 → gF (dC, dI) SKc G ([(3, 15), (50, 0), (56, 0), (57, 0)] : List (Nat × Nat)) s.heap H) → va_S A s.heap H locs → ct H mk9 60 V1171 → ct H hd9 30 V1173 → ct H kn 20 vK → ct H sf 20 vF → ct H sto 20 vT → ct H stp9 400 vS → el H o0 (dI 3 6) = some (.ref mk9) → el H o0 (dI 3 3) = some (.ref hd9) → el H o0 (dI 3 0) = some (.ref sA) → el H o0 (dI 3 16) = some (.int fm) → el H o0 (dI 3 5) = some (.ref fa9) → el H o0 (dI 3 15) = some (.int hl) → el H o0 (dI 3 7) = some (.ref lw) → el H lw (dI 7 2) = some (.ref kn) → el H lw (dI 7 11) = some (.int ln) → el H lw (dI 7 7) = some (.ref sf) → el H lw (dI 7 8) = some (.ref sto) → el H lw (dI 7 9) = some (.ref stp9) → el H lw (dI 7 10) = some (.ref stk) → el H o0 (dI 3 14) = some (.int x1165) → ∀ ls : Array Slot, lv_has ls 7 [(4, .int (nI i1168)), (3, .int z1169), (0, .ref o0), (1, .int p0), (2, .ref p1)] → W p l e (headSpec w_c_giveFarmsZ ({ frames := 5, cells := 0, slots := 0, locals := 135 })).room s m #[.ref o0, .int p0, .ref p1] below meth c H locs 0 0 (MQ below (va_Qi (fun (r : Int32) (u : Int32 × (Nat → Int32)) => match u with | (hl1, vh1) => (0 ≤ r.toInt ∧ r.toInt ≤ 60) ∧ ((0 < r.toInt ∧ ((1 ≤ p0.toInt ∧ p0.toInt ≤ 60) ∧ 0 < fm.toInt ∧ zNO (zLs (fun _ => 0) vA vD vC vU vI vW (fun _ => 0)) A9 nS)) ∨ (r.toInt = 0 ∧ ¬ ((1 ≤ p0.toInt ∧ p0.toInt ≤ 60) ∧ 0 < fm.toInt ∧ zNO (zLs (fun _ => 0) vA vD vC vU vI vW (fun _ => 0)) A9 nS) ∧ vh = vh1)) ∧ (hl1.toInt = r.toInt ∧ zct vh1 30 = hl1.toInt)) (fun (u : Int32 × (Nat → Int32)) (t : State) => match u with | (hl1, vh1) => gH (dC, dI) kA (SHc nC nS) G t.heap ∧ gF (dC, dI) SKc G ([(3, 15), (10, 7), (50, 0), (54, 0), (56, 0), (57, 0)] : List (Nat × Nat)) s.heap t.heap ∧ el t.heap o0 (dI 3 15) = some (.int hl1) ∧ ct t.heap hd9 30 vh1 ∧ (hl1 = 0 → gF (dC, dI) SKc G ([(3, 15), (50, 0), (56, 0), (57, 0)] : List (Nat × Nat)) s.heap t.heap)) A) #[.ref o0, .int p0, .ref p1] s 0 0 A) (F0 m 81 ls []) := by
        intro n1618
        induction n1618 with
        | zero =>
          intro i1168 hn1618 hlo1619 z1169 V1171 V1173 ⟨h1170, hj1193, hj1194⟩ H locs hT hF hF3 hS m1172 m1174 m1175 m1176 m1177 m1178 m1179 m1180 m1181 m1182 m1183 m1184 m1185 m1186 m1187 m1188 m1189 m1190 m1191 m1192 ls hl
          obtain rfl : 60 = i1168 := by omega
          refine lv_iload hx hb dX0_giveFarms_81 (lv_at hl 0 rfl) ?_
          refine lv_iload_n hx hb dX0_giveFarms_83 rfl (lv_at hl 3 rfl) ?_
          refine lv_icmp_ge (tgt := 155) hx hb dX0_giveFarms_84 (by decide) (fun c1620 => ?_) (fun c1620 => (by exfalso; have q9 : ((60 : Nat) : Int) < p0.toInt := ti_nle c1620 rfl (nI_toInt (by omega)); omega))
          have t1621 : p0.toInt ≤ ((60 : Nat) : Int) := ti_le c1620 rfl (nI_toInt (by omega))
          obtain ⟨hct1629, hj1193x⟩ := hj1193
          rcases hj1193x with ⟨ha1622, ha1623, rfl, hpm1624⟩ | ⟨hb1625, hb1626, hfm1627, hno1628⟩
          · have hF2 := hF3 (by omega)
            refine lv_aload_n hx hb dX0_giveFarms_155 rfl (lv_at hl 2 rfl) ?_
            refine lv_dup hx hb dX0_giveFarms_156 rfl ?_
            refine tw_getM (v := .int hl) hx hb hts bF2_X0 hown hK hT hr_o0 shc_3 rfl 15 (by decide) (ht_at2 hts 1 rfl) (fun _ h9 => h9) m1184 dX0_giveFarms_157 ?_
            refine lv_iload_n hx hb dX0_giveFarms_160 rfl (lv_at hl 1 rfl) ?_
            refine lv_iadd hx hb dX0_giveFarms_161 ?_
            refine lv_topi (fun x1630 ex1630 => ?_)
            have t1631 : x1630.toInt = hl.toInt + z1169.toInt := ti_add ex1630 rfl rfl (by omega) (by omega)
            refine tw_put (v := .int x1630) (ty := .int) hx hb hts bF2_X0 tyX0 tyX0_ok nmX0 hown hK hT hG hS hr_o0 shc_3 rfl 15 (by decide) (ht_at2 hts 1 rfl) (fun _ h9 => h9) rfl (by decide +kernel) rfl rfl (gl_at rfl (gi_all _)) dX0_giveFarms_162 (fun H locs hT oq m1632 oj hS => ?_)
            have hF := hF.put hr_o0 skc_3 oq oj (by decide)
            have hF2 := hF2.put hr_o0 skc_3 oq oj (by decide)
            have m1634 := m1174.kept (oq _ (gne hr_hd9 hr_o0 (by decide)))
            refine lv_iload_n hx hb dX0_giveFarms_165 rfl (lv_at hl 1 rfl) ?_
            exact W.iret (v := z1169) hx hb hr (fun t ht hW => ⟨⟨z1169, (x1630, vh), rfl, (by exact ⟨(by have q8 := ti_all z1169; omega), (by have r9 := (show z1169.toInt = z1169.toInt from rfl); exact Or.inr ⟨by omega, fun h8 => by have := h8.1; omega, rfl⟩), (by have := (show x1630.toInt = x1630.toInt from rfl); have := (show z1169.toInt = z1169.toInt from rfl); have := hct1629; exact ⟨by omega, by omega⟩)⟩), by (try dsimp only); rw [ht]; exact ⟨hT, hF, m1632, m1634, (fun _ => hF2)⟩⟩, hS.F ht⟩) hS.2.2 dX0_giveFarms_166
          · refine lv_aload_n hx hb dX0_giveFarms_155 rfl (lv_at hl 2 rfl) ?_
            refine lv_dup hx hb dX0_giveFarms_156 rfl ?_
            refine tw_getM (v := .int hl) hx hb hts bF2_X0 hown hK hT hr_o0 shc_3 rfl 15 (by decide) (ht_at2 hts 1 rfl) (fun _ h9 => h9) m1184 dX0_giveFarms_157 ?_
            refine lv_iload_n hx hb dX0_giveFarms_160 rfl (lv_at hl 1 rfl) ?_
            refine lv_iadd hx hb dX0_giveFarms_161 ?_
            refine lv_topi (fun x1652 ex1652 => ?_)
            have t1653 : x1652.toInt = hl.toInt + z1169.toInt := ti_add ex1652 rfl rfl (by omega) (by omega)
            refine tw_put (v := .int x1652) (ty := .int) hx hb hts bF2_X0 tyX0 tyX0_ok nmX0 hown hK hT hG hS hr_o0 shc_3 rfl 15 (by decide) (ht_at2 hts 1 rfl) (fun _ h9 => h9) rfl (by decide +kernel) rfl rfl (gl_at rfl (gi_all _)) dX0_giveFarms_162 (fun H locs hT oq m1654 oj hS => ?_)
            have hF := hF.put hr_o0 skc_3 oq oj (by decide)
            have m1656 := m1174.kept (oq _ (gne hr_hd9 hr_o0 (by decide)))
            refine lv_iload_n hx hb dX0_giveFarms_165 rfl (lv_at hl 1 rfl) ?_
            exact W.iret (v := z1169) hx hb hr (fun t ht hW => ⟨⟨z1169, (x1652, V1173), rfl, (by exact ⟨(by have q8 := ti_all z1169; omega), (by have r9 := (show z1169.toInt = z1169.toInt from rfl); exact Or.inl ⟨by omega, ⟨by omega, by omega⟩, hfm1627, hno1628⟩), (by have := (show x1652.toInt = x1652.toInt from rfl); have := (show z1169.toInt = z1169.toInt from rfl); have := hct1629; exact ⟨by omega, by omega⟩)⟩), by (try dsimp only); rw [ht]; exact ⟨hT, hF, m1654, m1656, (fun h9 => by exfalso; have h8 := congrArg Int32.toInt h9; have z8 : (0 : Int32).toInt = 0 := (by decide); have := (show x1652.toInt = x1652.toInt from rfl); omega)⟩⟩, hS.F ht⟩) hS.2.2 dX0_giveFarms_166
        | succ n1618 ih1618 =>
          intro i1168 hn1618 hlo1619 z1169 V1171 V1173 ⟨h1170, hj1193, hj1194⟩ H locs hT hF hF3 hS m1172 m1174 m1175 m1176 m1177 m1178 m1179 m1180 m1181 m1182 m1183 m1184 m1185 m1186 m1187 m1188 m1189 m1190 m1191 m1192 ls hl
          have hlt1673 : i1168 < 60 := by omega
          refine lv_iload hx hb dX0_giveFarms_81 (lv_at hl 0 rfl) ?_
          refine lv_iload_n hx hb dX0_giveFarms_83 rfl (lv_at hl 3 rfl) ?_
          refine lv_icmp_ge (tgt := 155) hx hb dX0_giveFarms_84 (by decide) (fun c1674 => ?_) (fun c1674 => ?_)
          · have t1675 : p0.toInt ≤ ((i1168 : Nat) : Int) := ti_le c1674 rfl (nI_toInt (by omega))
            obtain ⟨hct1683, hj1193x⟩ := hj1193
            rcases hj1193x with ⟨ha1676, ha1677, rfl, hpm1678⟩ | ⟨hb1679, hb1680, hfm1681, hno1682⟩
            · have hF2 := hF3 (by omega)
              refine lv_aload_n hx hb dX0_giveFarms_155 rfl (lv_at hl 2 rfl) ?_
              refine lv_dup hx hb dX0_giveFarms_156 rfl ?_
              refine tw_getM (v := .int hl) hx hb hts bF2_X0 hown hK hT hr_o0 shc_3 rfl 15 (by decide) (ht_at2 hts 1 rfl) (fun _ h9 => h9) m1184 dX0_giveFarms_157 ?_
              refine lv_iload_n hx hb dX0_giveFarms_160 rfl (lv_at hl 1 rfl) ?_
              refine lv_iadd hx hb dX0_giveFarms_161 ?_
              refine lv_topi (fun x1684 ex1684 => ?_)
              have t1685 : x1684.toInt = hl.toInt + z1169.toInt := ti_add ex1684 rfl rfl (by omega) (by omega)
              refine tw_put (v := .int x1684) (ty := .int) hx hb hts bF2_X0 tyX0 tyX0_ok nmX0 hown hK hT hG hS hr_o0 shc_3 rfl 15 (by decide) (ht_at2 hts 1 rfl) (fun _ h9 => h9) rfl (by decide +kernel) rfl rfl (gl_at rfl (gi_all _)) dX0_giveFarms_162 (fun H locs hT oq m1686 oj hS => ?_)
              have hF := hF.put hr_o0 skc_3 oq oj (by decide)
              have hF2 := hF2.put hr_o0 skc_3 oq oj (by decide)
              have m1688 := m1174.kept (oq _ (gne hr_hd9 hr_o0 (by decide)))
              refine lv_iload_n hx hb dX0_giveFarms_165 rfl (lv_at hl 1 rfl) ?_
              exact W.iret (v := z1169) hx hb hr (fun t ht hW => ⟨⟨z1169, (x1684, vh), rfl, (by exact ⟨(by have q8 := ti_all z1169; omega), (by have r9 := (show z1169.toInt = z1169.toInt from rfl); exact Or.inr ⟨by omega, fun h8 => by have := h8.1; omega, rfl⟩), (by have := (show x1684.toInt = x1684.toInt from rfl); have := (show z1169.toInt = z1169.toInt from rfl); have := hct1683; exact ⟨by omega, by omega⟩)⟩), by (try dsimp only); rw [ht]; exact ⟨hT, hF, m1686, m1688, (fun _ => hF2)⟩⟩, hS.F ht⟩) hS.2.2 dX0_giveFarms_166
            · refine lv_aload_n hx hb dX0_giveFarms_155 rfl (lv_at hl 2 rfl) ?_
              refine lv_dup hx hb dX0_giveFarms_156 rfl ?_
              refine tw_getM (v := .int hl) hx hb hts bF2_X0 hown hK hT hr_o0 shc_3 rfl 15 (by decide) (ht_at2 hts 1 rfl) (fun _ h9 => h9) m1184 dX0_giveFarms_157 ?_
              refine lv_iload_n hx hb dX0_giveFarms_160 rfl (lv_at hl 1 rfl) ?_
              refine lv_iadd hx hb dX0_giveFarms_161 ?_
              refine lv_topi (fun x1706 ex1706 => ?_)
              have t1707 : x1706.toInt = hl.toInt + z1169.toInt := ti_add ex1706 rfl rfl (by omega) (by omega)
              refine tw_put (v := .int x1706) (ty := .int) hx hb hts bF2_X0 tyX0 tyX0_ok nmX0 hown hK hT hG hS hr_o0 shc_3 rfl 15 (by decide) (ht_at2 hts 1 rfl) (fun _ h9 => h9) rfl (by decide +kernel) rfl rfl (gl_at rfl (gi_all _)) dX0_giveFarms_162 (fun H locs hT oq m1708 oj hS => ?_)
              have hF := hF.put hr_o0 skc_3 oq oj (by decide)
              have m1710 := m1174.kept (oq _ (gne hr_hd9 hr_o0 (by decide)))
              refine lv_iload_n hx hb dX0_giveFarms_165 rfl (lv_at hl 1 rfl) ?_
              exact W.iret (v := z1169) hx hb hr (fun t ht hW => ⟨⟨z1169, (x1706, V1173), rfl, (by exact ⟨(by have q8 := ti_all z1169; omega), (by have r9 := (show z1169.toInt = z1169.toInt from rfl); exact Or.inl ⟨by omega, ⟨by omega, by omega⟩, hfm1681, hno1682⟩), (by have := (show x1706.toInt = x1706.toInt from rfl); have := (show z1169.toInt = z1169.toInt from rfl); have := hct1683; exact ⟨by omega, by omega⟩)⟩), by (try dsimp only); rw [ht]; exact ⟨hT, hF, m1708, m1710, (fun h9 => by exfalso; have h8 := congrArg Int32.toInt h9; have z8 : (0 : Int32).toInt = 0 := (by decide); have := (show x1706.toInt = x1706.toInt from rfl); omega)⟩⟩, hS.F ht⟩) hS.2.2 dX0_giveFarms_166
          · have t1728 : ((i1168 : Nat) : Int) < p0.toInt := ti_nle c1674 rfl (nI_toInt (by omega))
            obtain ⟨hct1736, hj1193x⟩ := hj1193
            rcases hj1193x with ⟨ha1729, ha1730, rfl, hpm1731⟩ | ⟨hb1732, hb1733, hfm1734, hno1735⟩
            · have hF2 := hF3 (by omega)
              refine lv_aload_n hx hb dX0_giveFarms_87 rfl (lv_at hl 2 rfl) ?_
              have hFc := gA_free hG hA hS
              refine va_calli (va_runV (As := []) (rest := []) ⟨hx, hb, hml, hown, hts⟩ (c_firstByMarkZ l dC dI kA adK adV G H nC nS o0 mk9 V1171 hT hr_o0 m1179 hr_mk9 m1172 (by omega) (by omega)) (cwV 0 hts (goodIn_app (goodIn_r _ [6, 7, 8, 9] rfl (by decide +kernel)) (goodIn_ca (goodIn_r _ [3, 1, 4, 5] rfl (by decide +kernel)) (bs2_in _ _))) rfl rfl rfl (by decide +kernel) ⟨(Nat.le_of_ble_eq_true rfl), (Nat.le_of_ble_eq_true rfl)⟩) ⟨fun a U g mk q => by obtain ⟨q0, q1, qK, qE⟩ := q; exact ⟨q0, q1, va_K.moved (u := U) (U := U.calling g mk a) (Vm.Alike.refl U.vm) qK, EVC.blind g mk a qE⟩, gH_rc hK hT hr_o0 shc_3 rfl, fun U hU hW => ⟨rfl, hU, va_K.moved hW.alike hK, hE.call hS hFc hU hW⟩⟩ rfl rfl hl.1 rfl (lv_room (Nat.le_of_ble_eq_true rfl)) dX0_giveFarms_88 ⟨(Nat.le_of_ble_eq_true rfl), (Nat.le_of_ble_eq_true rfl)⟩) hS (fun q _ h => hFc q h) hFc (fun r1737 u t H locs ht hvm hw1738 hB _ _ hS => ?_)
              obtain ⟨hT, hF1⟩ := hB
              rw [ht] at hT hF1
              have m1739 := m1172.kept (hF1.arr hr_mk9 skc_57 (by decide))
              have m1740 := m1174.kept (hF1.arr hr_hd9 skc_54 (by decide))
              have m1741 := m1175.kept (hF1.arr hr_kn skc_42 (by decide))
              have m1742 := m1176.kept (hF1.arr hr_sf skc_47 (by decide))
              have m1743 := m1177.kept (hF1.arr hr_sto skc_48 (by decide))
              have m1744 := m1178.kept (hF1.arr hr_stp9 skc_49 (by decide))
              have m1745 := (hF1.fld hr_o0 skc_3 (k := 6) (by decide) (by decide)).trans m1179
              have m1746 := (hF1.fld hr_o0 skc_3 (k := 3) (by decide) (by decide)).trans m1180
              have m1747 := (hF1.fld hr_o0 skc_3 (k := 0) (by decide) (by decide)).trans m1181
              have m1748 := (hF1.fld hr_o0 skc_3 (k := 16) (by decide) (by decide)).trans m1182
              have m1749 := (hF1.fld hr_o0 skc_3 (k := 5) (by decide) (by decide)).trans m1183
              have m1750 := (hF1.fld hr_o0 skc_3 (k := 15) (by decide) (by decide)).trans m1184
              have m1751 := (hF1.fld hr_o0 skc_3 (k := 7) (by decide) (by decide)).trans m1185
              have m1752 := (hF1.fld hr_lw skc_7 (k := 2) (by decide) (by decide)).trans m1186
              have m1753 := (hF1.fld hr_lw skc_7 (k := 11) (by decide) (by decide)).trans m1187
              have m1754 := (hF1.fld hr_lw skc_7 (k := 7) (by decide) (by decide)).trans m1188
              have m1755 := (hF1.fld hr_lw skc_7 (k := 8) (by decide) (by decide)).trans m1189
              have m1756 := (hF1.fld hr_lw skc_7 (k := 9) (by decide) (by decide)).trans m1190
              have m1757 := (hF1.fld hr_lw skc_7 (k := 10) (by decide) (by decide)).trans m1191
              have m1758 := (hF1.fld hr_o0 skc_3 (k := 14) (by decide) (by decide)).trans m1192
              have hF := hF.more hF1 (by decide)
              have hF2 := hF2.more hF1 (by decide)
              try dsimp only at hw1738
              obtain ⟨h1759, hf1760⟩ := hw1738
              refine lv_istore (lv' := [(5, .int r1737), (4, .int (nI i1168)), (3, .int z1169), (0, .ref o0), (1, .int p0), (2, .ref p1)]) hx hb dX0_giveFarms_91 hl (by decide) rfl (fun ls hl => ?_)
              refine lv_aload_n hx hb dX0_giveFarms_93 rfl (lv_at hl 3 rfl) ?_
              refine lv_aload_n hx hb dX0_giveFarms_94 rfl (lv_at hl 5 rfl) ?_
              refine tw_getN hx hb hts bF2_X3 hown hK hT hr_p1 shc_6 rfl 1 (by decide) (hE.nw 73 rfl) (fun _ h9 => h9) dX0_giveFarms_95 (fun v9 m1761 h9 => ?_)
              obtain ⟨b1762, rfl, hg1763⟩ := h9 _ rfl
              have hFc := gA_free hG hA hS
              refine va_calli (va_runV (As := [.ref b1762]) (rest := []) ⟨hx, hb, hml, hown, hts⟩ (c_bestFreeFarmZ l dC dI kA adK adV G H nC nS o0 b1762 hd9 fm vh hT hg1763 hr_o0 m1746 hr_hd9 m1748 (by have q8 := ti_all fm; omega) hnh m1740 (by omega) (by omega)) (cwV 1 hts (goodIn_app (goodIn_r _ [22, 23, 24, 9] rfl (by decide +kernel)) (goodIn_ca (goodIn_r _ [10, 11, 12, 13, 14, 15, 16, 17, 18, 19, 20, 21, 9] rfl (by decide +kernel)) (bs2_in _ _))) rfl rfl rfl (by decide +kernel) ⟨(Nat.le_of_ble_eq_true rfl), (Nat.le_of_ble_eq_true rfl)⟩) ⟨fun a U g mk q => by obtain ⟨q0, q1, qK, qE⟩ := q; exact ⟨q0, q1, va_K.moved (u := U) (U := U.calling g mk a) (Vm.Alike.refl U.vm) qK, EVC.blind g mk a qE⟩, gH_rc hK hT hr_o0 shc_3 rfl, fun U hU hW => ⟨rfl, hU, va_K.moved hW.alike hK, hE.call hS hFc hU hW⟩⟩ rfl rfl hl.1 rfl (lv_room (Nat.le_of_ble_eq_true rfl)) dX0_giveFarms_98 ⟨(Nat.le_of_ble_eq_true rfl), (Nat.le_of_ble_eq_true rfl)⟩) hS (fun q _ h => hFc q h) hFc (fun r1764 u t H locs ht hvm hw1765 hB _ _ hS => ?_)
              obtain ⟨hT, hF1⟩ := hB
              rw [ht] at hT hF1
              have m1766 := m1739.kept (hF1.arr hr_mk9 skc_57 (by decide))
              have m1767 := m1740.kept (hF1.arr hr_hd9 skc_54 (by decide))
              have m1768 := m1741.kept (hF1.arr hr_kn skc_42 (by decide))
              have m1769 := m1742.kept (hF1.arr hr_sf skc_47 (by decide))
              have m1770 := m1743.kept (hF1.arr hr_sto skc_48 (by decide))
              have m1771 := m1744.kept (hF1.arr hr_stp9 skc_49 (by decide))
              have m1772 := (hF1.fld hr_o0 skc_3 (k := 6) (by decide) (by decide)).trans m1745
              have m1773 := (hF1.fld hr_o0 skc_3 (k := 3) (by decide) (by decide)).trans m1746
              have m1774 := (hF1.fld hr_o0 skc_3 (k := 0) (by decide) (by decide)).trans m1747
              have m1775 := (hF1.fld hr_o0 skc_3 (k := 16) (by decide) (by decide)).trans m1748
              have m1776 := (hF1.fld hr_o0 skc_3 (k := 5) (by decide) (by decide)).trans m1749
              have m1777 := (hF1.fld hr_o0 skc_3 (k := 15) (by decide) (by decide)).trans m1750
              have m1778 := (hF1.fld hr_o0 skc_3 (k := 7) (by decide) (by decide)).trans m1751
              have m1779 := (hF1.fld hr_lw skc_7 (k := 2) (by decide) (by decide)).trans m1752
              have m1780 := (hF1.fld hr_lw skc_7 (k := 11) (by decide) (by decide)).trans m1753
              have m1781 := (hF1.fld hr_lw skc_7 (k := 7) (by decide) (by decide)).trans m1754
              have m1782 := (hF1.fld hr_lw skc_7 (k := 8) (by decide) (by decide)).trans m1755
              have m1783 := (hF1.fld hr_lw skc_7 (k := 9) (by decide) (by decide)).trans m1756
              have m1784 := (hF1.fld hr_lw skc_7 (k := 10) (by decide) (by decide)).trans m1757
              have m1785 := (hF1.fld hr_o0 skc_3 (k := 14) (by decide) (by decide)).trans m1758
              have hF := hF.more hF1 (by decide)
              have hF2 := hF2.more hF1 (by decide)
              try dsimp only at hw1765
              obtain ⟨h1787, hf1788⟩ := hw1765
              refine lv_istore (lv' := [(6, .int r1764), (5, .int r1737), (4, .int (nI i1168)), (3, .int z1169), (0, .ref o0), (1, .int p0), (2, .ref p1)]) hx hb dX0_giveFarms_101 hl (by decide) rfl (fun ls hl => ?_)
              refine lv_iload hx hb dX0_giveFarms_103 (lv_at hl 1 rfl) ?_
              refine lv_iconst (v := (-1)) hx hb dX0_giveFarms_105 (by decide) ?_
              refine lv_icmp_eq (tgt := 155) hx hb dX0_giveFarms_106 (by decide) (fun c1789 => ?_) (fun c1789 => ?_)
              · have t1790 : r1737.toInt = (-1) := ti_eq c1789 rfl (by decide)
                refine lv_aload_n hx hb dX0_giveFarms_155 rfl (lv_at hl 4 rfl) ?_
                refine lv_dup hx hb dX0_giveFarms_156 rfl ?_
                refine tw_getM (v := .int hl) hx hb hts bF2_X0 hown hK hT hr_o0 shc_3 rfl 15 (by decide) (ht_at2 hts 1 rfl) (fun _ h9 => h9) m1777 dX0_giveFarms_157 ?_
                refine lv_iload_n hx hb dX0_giveFarms_160 rfl (lv_at hl 3 rfl) ?_
                refine lv_iadd hx hb dX0_giveFarms_161 ?_
                refine lv_topi (fun x1791 ex1791 => ?_)
                have t1792 : x1791.toInt = hl.toInt + z1169.toInt := ti_add ex1791 rfl rfl (by omega) (by omega)
                refine tw_put (v := .int x1791) (ty := .int) hx hb hts bF2_X0 tyX0 tyX0_ok nmX0 hown hK hT hG hS hr_o0 shc_3 rfl 15 (by decide) (ht_at2 hts 1 rfl) (fun _ h9 => h9) rfl (by decide +kernel) rfl rfl (gl_at rfl (gi_all _)) dX0_giveFarms_162 (fun H locs hT oq m1793 oj hS => ?_)
                have hF := hF.put hr_o0 skc_3 oq oj (by decide)
                have hF2 := hF2.put hr_o0 skc_3 oq oj (by decide)
                have m1795 := m1767.kept (oq _ (gne hr_hd9 hr_o0 (by decide)))
                refine lv_iload_n hx hb dX0_giveFarms_165 rfl (lv_at hl 3 rfl) ?_
                exact W.iret (v := z1169) hx hb hr (fun t ht hW => ⟨⟨z1169, (x1791, vh), rfl, (by exact ⟨(by have q8 := ti_all z1169; omega), (by have r9 := (show z1169.toInt = z1169.toInt from rfl); exact Or.inr ⟨by omega, fun h8 => by have := h8.2.1; have n9 := h8.2.2; rcases hf1760 with ⟨h7, h6⟩ | ⟨h7, h6, h5⟩; (exact (hpm1731.no (by omega) h6) n9); omega, rfl⟩), (by have := (show x1791.toInt = x1791.toInt from rfl); have := (show z1169.toInt = z1169.toInt from rfl); have := hct1736; exact ⟨by omega, by omega⟩)⟩), by (try dsimp only); rw [ht]; exact ⟨hT, hF, m1793, m1795, (fun _ => hF2)⟩⟩, hS.F ht⟩) hS.2.2 dX0_giveFarms_166
              · have t1814 : r1737.toInt ≠ (-1) := ti_ne c1789 rfl (by decide)
                refine lv_iload hx hb dX0_giveFarms_109 (lv_at hl 0 rfl) ?_
                refine lv_iconst (v := (-1)) hx hb dX0_giveFarms_111 (by decide) ?_
                refine lv_icmp_ne (tgt := 118) hx hb dX0_giveFarms_112 (by decide) (fun c1815 => ?_) (fun c1815 => ?_)
                · have t1816 : r1764.toInt ≠ (-1) := ti_ne c1815 rfl (by decide)
                  refine lv_aload_n hx hb dX0_giveFarms_118 rfl (lv_at hl 4 rfl) ?_
                  refine tw_getM (v := .ref mk9) hx hb hts bF2_X0 hown hK hT hr_o0 shc_3 rfl 6 (by decide) (ht_at2 hts 3 rfl) (fun _ h9 => h9) m1772 dX0_giveFarms_119 ?_
                  refine lv_iload hx hb dX0_giveFarms_122 (lv_at hl 1 rfl) ?_
                  refine lv_iconst (v := (-1)) hx hb dX0_giveFarms_124 (by decide) ?_
                  refine tw_iast (i := r1737) (x := (-1)) hx hb hK hT hG hS hr_mk9 shc_57 rfl (vin_t (a := r1737.toInt) rfl (by omega) (by omega)) (gi_all _) dX0_giveFarms_125 (fun H locs hT oq m1817 oi hS => ?_)
                  have hF := hF.ast hr_mk9 skc_57 oq (by decide)
                  have hF2 := hF2.ast hr_mk9 skc_57 oq (by decide)
                  have m1818 := m1766.put m1817 oi
                  have m1819 := m1767.kept (oq _ (gne hr_hd9 hr_mk9 (by decide)))
                  have m1820 := m1768.kept (oq _ (gne hr_kn hr_mk9 (by decide)))
                  have m1821 := m1769.kept (oq _ (gne hr_sf hr_mk9 (by decide)))
                  have m1822 := m1770.kept (oq _ (gne hr_sto hr_mk9 (by decide)))
                  have m1823 := m1771.kept (oq _ (gne hr_stp9 hr_mk9 (by decide)))
                  have m1824 := (el_kept (oq _ (gne hr_o0 hr_mk9 (by decide)))).trans m1772
                  have m1825 := (el_kept (oq _ (gne hr_o0 hr_mk9 (by decide)))).trans m1773
                  have m1826 := (el_kept (oq _ (gne hr_o0 hr_mk9 (by decide)))).trans m1774
                  have m1827 := (el_kept (oq _ (gne hr_o0 hr_mk9 (by decide)))).trans m1775
                  have m1828 := (el_kept (oq _ (gne hr_o0 hr_mk9 (by decide)))).trans m1776
                  have m1829 := (el_kept (oq _ (gne hr_o0 hr_mk9 (by decide)))).trans m1777
                  have m1830 := (el_kept (oq _ (gne hr_o0 hr_mk9 (by decide)))).trans m1778
                  have m1831 := (el_kept (oq _ (gne hr_lw hr_mk9 (by decide)))).trans m1779
                  have m1832 := (el_kept (oq _ (gne hr_lw hr_mk9 (by decide)))).trans m1780
                  have m1833 := (el_kept (oq _ (gne hr_lw hr_mk9 (by decide)))).trans m1781
                  have m1834 := (el_kept (oq _ (gne hr_lw hr_mk9 (by decide)))).trans m1782
                  have m1835 := (el_kept (oq _ (gne hr_lw hr_mk9 (by decide)))).trans m1783
                  have m1836 := (el_kept (oq _ (gne hr_lw hr_mk9 (by decide)))).trans m1784
                  have m1837 := (el_kept (oq _ (gne hr_o0 hr_mk9 (by decide)))).trans m1785
                  refine lv_aload_n hx hb dX0_giveFarms_126 rfl (lv_at hl 4 rfl) ?_
                  refine tw_getM (v := .ref sA) hx hb hts bF2_X0 hown hK hT hr_o0 shc_3 rfl 0 (by decide) (ht_at2 hts 4 rfl) (fun _ h9 => h9) m1826 dX0_giveFarms_127 ?_
                  refine lv_iload hx hb dX0_giveFarms_130 (lv_at hl 1 rfl) ?_
                  refine tw_aald (i := r1737) hx hb hK hT hr_sA shc_51 rfl (vin_t (a := r1737.toInt) rfl (by omega) (by omega)) dX0_giveFarms_132 (fun v9 m1839 h9 => ?_)
                  obtain ⟨b1840, rfl, hg1841⟩ := (h9.1 (by have q9 := tn_of (show r1737.toInt = r1737.toInt from rfl) (by omega); omega))
                  refine lv_iload hx hb dX0_giveFarms_133 (lv_at hl 0 rfl) ?_
                  refine tw_putN (v := .int r1764) (ty := .int) hx hb hts bF2_X7 tyX7 tyX7_ok nmX7 hown hK hT hG hS hg1841 shc_10 rfl 7 (by decide) (hE.nw 61 rfl) (fun _ h9 => h9) rfl (by decide +kernel) rfl rfl (gl_at rfl (gi_of (show r1764.toInt = r1764.toInt from rfl) (by omega) (by omega))) dX0_giveFarms_135 (fun H locs hT oq m1842 oj hS => ?_)
                  have hF := hF.put hg1841 skc_10 oq oj (by decide)
                  have m1843 := m1818.kept (oq _ (gne hr_mk9 hg1841 (by decide)))
                  have m1844 := m1819.kept (oq _ (gne hr_hd9 hg1841 (by decide)))
                  have m1845 := m1820.kept (oq _ (gne hr_kn hg1841 (by decide)))
                  have m1846 := m1821.kept (oq _ (gne hr_sf hg1841 (by decide)))
                  have m1847 := m1822.kept (oq _ (gne hr_sto hg1841 (by decide)))
                  have m1848 := m1823.kept (oq _ (gne hr_stp9 hg1841 (by decide)))
                  have m1849 := (el_kept (oq _ (gne hr_o0 hg1841 (by decide)))).trans m1824
                  have m1850 := (el_kept (oq _ (gne hr_o0 hg1841 (by decide)))).trans m1825
                  have m1851 := (el_kept (oq _ (gne hr_o0 hg1841 (by decide)))).trans m1826
                  have m1852 := (el_kept (oq _ (gne hr_o0 hg1841 (by decide)))).trans m1827
                  have m1853 := (el_kept (oq _ (gne hr_o0 hg1841 (by decide)))).trans m1828
                  have m1854 := (el_kept (oq _ (gne hr_o0 hg1841 (by decide)))).trans m1829
                  have m1855 := (el_kept (oq _ (gne hr_o0 hg1841 (by decide)))).trans m1830
                  have m1856 := (el_kept (oq _ (gne hr_lw hg1841 (by decide)))).trans m1831
                  have m1857 := (el_kept (oq _ (gne hr_lw hg1841 (by decide)))).trans m1832
                  have m1858 := (el_kept (oq _ (gne hr_lw hg1841 (by decide)))).trans m1833
                  have m1859 := (el_kept (oq _ (gne hr_lw hg1841 (by decide)))).trans m1834
                  have m1860 := (el_kept (oq _ (gne hr_lw hg1841 (by decide)))).trans m1835
                  have m1861 := (el_kept (oq _ (gne hr_lw hg1841 (by decide)))).trans m1836
                  have m1862 := (el_kept (oq _ (gne hr_o0 hg1841 (by decide)))).trans m1837
                  refine lv_aload_n hx hb dX0_giveFarms_138 rfl (lv_at hl 4 rfl) ?_
                  refine tw_getM (v := .ref hd9) hx hb hts bF2_X0 hown hK hT hr_o0 shc_3 rfl 3 (by decide) (ht_at2 hts 11 rfl) (fun _ h9 => h9) m1850 dX0_giveFarms_139 ?_
                  refine lv_iload hx hb dX0_giveFarms_142 (lv_at hl 0 rfl) ?_
                  refine lv_iconst (v := 1) hx hb dX0_giveFarms_144 (by decide) ?_
                  refine tw_zast (i := r1764) (x := 1) hx hb hK hT hG hS hr_hd9 shc_54 rfl (vin_t (a := r1764.toInt) rfl (by omega) (by omega)) (gi_z (rg_t (a := 1) (by decide) (by first | decide | omega) (by first | decide | omega)) (by decide) (by decide)) dX0_giveFarms_145 (fun H locs hT oq m1866 oi hS => ?_)
                  have hF := hF.ast hr_hd9 skc_54 oq (by decide)
                  have m1867 := m1843.kept (oq _ (gne hr_mk9 hr_hd9 (by decide)))
                  have m1868 := m1844.put (show el H hd9 _ = some (.int 1) from m1866) oi
                  have m1869 := m1845.kept (oq _ (gne hr_kn hr_hd9 (by decide)))
                  have m1870 := m1846.kept (oq _ (gne hr_sf hr_hd9 (by decide)))
                  have m1871 := m1847.kept (oq _ (gne hr_sto hr_hd9 (by decide)))
                  have m1872 := m1848.kept (oq _ (gne hr_stp9 hr_hd9 (by decide)))
                  have m1873 := (el_kept (oq _ (gne hr_o0 hr_hd9 (by decide)))).trans m1849
                  have m1874 := (el_kept (oq _ (gne hr_o0 hr_hd9 (by decide)))).trans m1850
                  have m1875 := (el_kept (oq _ (gne hr_o0 hr_hd9 (by decide)))).trans m1851
                  have m1876 := (el_kept (oq _ (gne hr_o0 hr_hd9 (by decide)))).trans m1852
                  have m1877 := (el_kept (oq _ (gne hr_o0 hr_hd9 (by decide)))).trans m1853
                  have m1878 := (el_kept (oq _ (gne hr_o0 hr_hd9 (by decide)))).trans m1854
                  have m1879 := (el_kept (oq _ (gne hr_o0 hr_hd9 (by decide)))).trans m1855
                  have m1880 := (el_kept (oq _ (gne hr_lw hr_hd9 (by decide)))).trans m1856
                  have m1881 := (el_kept (oq _ (gne hr_lw hr_hd9 (by decide)))).trans m1857
                  have m1882 := (el_kept (oq _ (gne hr_lw hr_hd9 (by decide)))).trans m1858
                  have m1883 := (el_kept (oq _ (gne hr_lw hr_hd9 (by decide)))).trans m1859
                  have m1884 := (el_kept (oq _ (gne hr_lw hr_hd9 (by decide)))).trans m1860
                  have m1885 := (el_kept (oq _ (gne hr_lw hr_hd9 (by decide)))).trans m1861
                  have m1886 := (el_kept (oq _ (gne hr_o0 hr_hd9 (by decide)))).trans m1862
                  obtain ⟨x1891, ex1891⟩ : ∃ y : Int32, y = z1169 + 1 := ⟨_, rfl⟩
                  have t1892 : x1891.toInt = z1169.toInt + 1 := ti_add ex1891 rfl (by decide) (by omega) (by omega)
                  refine lv_iinc (v := x1891) (lv' := [(3, .int x1891), (6, .int r1764), (5, .int r1737), (4, .int (nI i1168)), (0, .ref o0), (1, .int p0), (2, .ref p1)]) hx hb dX0_giveFarms_146 hl (k := 3) rfl (by first | (rw [ex1891]; done) | (rw [ex1891]; rfl)) (by decide) rfl (fun ls hl => ?_)
                  refine lv_iinc (v := nI (i1168 + 1)) (lv' := [(4, .int (nI (i1168 + 1))), (3, .int x1891), (6, .int r1764), (5, .int r1737), (0, .ref o0), (1, .int p0), (2, .ref p1)]) hx hb dX0_giveFarms_149 hl (k := 3) rfl (nI_add i1168 1) (by decide) rfl (fun ls hl => ?_)
                  refine lv_goto (tgt := 81) hx hb dX0_giveFarms_152 (by decide) ?_
                  exact ih1618 (i1168 + 1) (by omega) (by omega) x1891 (cu V1171 r1737.toNatClampNeg (-1 : Int32)) (cu vh r1764.toNatClampNeg (1 : Int32)) ⟨(by have q9 := (show x1891.toInt = x1891.toInt from rfl); (try have q8 := ti_all x1891); omega), ⟨(by have := (show x1891.toInt = x1891.toInt from rfl); rw [zct_1 (by exact hnh _ (by have := tn_of (show r1764.toInt = r1764.toInt from rfl) (by omega); omega)) (by decide) 30 (by have := tn_of (show r1764.toInt = r1764.toInt from rfl) (by omega); omega)]; have := hct1736; omega), Or.inr ⟨by omega, by have := (show x1891.toInt = x1891.toInt from rfl); omega, by omega, hpm1731.yes (by omega) ((hf1760.resolve_left (fun h8 => by have := h8.1; omega)).2.2)⟩⟩, (by have := (show x1891.toInt = x1891.toInt from rfl); omega)⟩ _ _ hT hF (fun h9 => absurd h9 (by omega)) hS m1867 m1868 m1869 m1870 m1871 m1872 m1873 m1874 m1875 m1876 m1877 m1878 m1879 m1880 m1881 m1882 m1883 m1884 m1885 m1886 ls (lv_sub hl [0, 1, 4, 5, 6] rfl)
                · have t1893 : r1764.toInt = (-1) := ti_eq c1815 rfl (by decide)
                  refine lv_goto (tgt := 155) hx hb dX0_giveFarms_115 (by decide) ?_
                  refine lv_aload_n hx hb dX0_giveFarms_155 rfl (lv_at hl 4 rfl) ?_
                  refine lv_dup hx hb dX0_giveFarms_156 rfl ?_
                  refine tw_getM (v := .int hl) hx hb hts bF2_X0 hown hK hT hr_o0 shc_3 rfl 15 (by decide) (ht_at2 hts 1 rfl) (fun _ h9 => h9) m1777 dX0_giveFarms_157 ?_
                  refine lv_iload_n hx hb dX0_giveFarms_160 rfl (lv_at hl 3 rfl) ?_
                  refine lv_iadd hx hb dX0_giveFarms_161 ?_
                  refine lv_topi (fun x1894 ex1894 => ?_)
                  have t1895 : x1894.toInt = hl.toInt + z1169.toInt := ti_add ex1894 rfl rfl (by omega) (by omega)
                  refine tw_put (v := .int x1894) (ty := .int) hx hb hts bF2_X0 tyX0 tyX0_ok nmX0 hown hK hT hG hS hr_o0 shc_3 rfl 15 (by decide) (ht_at2 hts 1 rfl) (fun _ h9 => h9) rfl (by decide +kernel) rfl rfl (gl_at rfl (gi_all _)) dX0_giveFarms_162 (fun H locs hT oq m1896 oj hS => ?_)
                  have hF := hF.put hr_o0 skc_3 oq oj (by decide)
                  have hF2 := hF2.put hr_o0 skc_3 oq oj (by decide)
                  have m1898 := m1767.kept (oq _ (gne hr_hd9 hr_o0 (by decide)))
                  refine lv_iload_n hx hb dX0_giveFarms_165 rfl (lv_at hl 3 rfl) ?_
                  exact W.iret (v := z1169) hx hb hr (fun t ht hW => ⟨⟨z1169, (x1894, vh), rfl, (by exact ⟨(by have q8 := ti_all z1169; omega), (by have r9 := (show z1169.toInt = z1169.toInt from rfl); exact Or.inr ⟨by omega, fun h8 => by have := h8.2.1; have n9 := h8.2.2; rcases hf1760 with ⟨h7, h6⟩ | ⟨h7, h6, h5⟩; (exact (hpm1731.no (by omega) h6) n9); omega, rfl⟩), (by have := (show x1894.toInt = x1894.toInt from rfl); have := (show z1169.toInt = z1169.toInt from rfl); have := hct1736; exact ⟨by omega, by omega⟩)⟩), by (try dsimp only); rw [ht]; exact ⟨hT, hF, m1896, m1898, (fun _ => hF2)⟩⟩, hS.F ht⟩) hS.2.2 dX0_giveFarms_166
            · refine lv_aload_n hx hb dX0_giveFarms_87 rfl (lv_at hl 2 rfl) ?_
              have hFc := gA_free hG hA hS
              refine va_calli (va_runV (As := []) (rest := []) ⟨hx, hb, hml, hown, hts⟩ (c_firstByMark l dC dI kA adK adV G H nC nS o0 hT hr_o0 (by omega) (by omega)) (cwV 0 hts (goodIn_app (goodIn_r _ [6, 7, 8, 9] rfl (by decide +kernel)) (goodIn_ca (goodIn_r _ [3, 1, 4, 5] rfl (by decide +kernel)) (bs2_in _ _))) rfl rfl rfl (by decide +kernel) ⟨(Nat.le_of_ble_eq_true rfl), (Nat.le_of_ble_eq_true rfl)⟩) ⟨fun a U g mk q => by obtain ⟨q0, q1, qK, qE⟩ := q; exact ⟨q0, q1, va_K.moved (u := U) (U := U.calling g mk a) (Vm.Alike.refl U.vm) qK, EVC.blind g mk a qE⟩, gH_rc hK hT hr_o0 shc_3 rfl, fun U hU hW => ⟨rfl, hU, va_K.moved hW.alike hK, hE.call hS hFc hU hW⟩⟩ rfl rfl hl.1 rfl (lv_room (Nat.le_of_ble_eq_true rfl)) dX0_giveFarms_88 ⟨(Nat.le_of_ble_eq_true rfl), (Nat.le_of_ble_eq_true rfl)⟩) hS (fun q _ h => hFc q h) hFc (fun r1917 u t H locs ht hvm hw1918 hB _ _ hS => ?_)
              obtain ⟨hT, hF1⟩ := hB
              rw [ht] at hT hF1
              have m1919 := m1172.kept (hF1.arr hr_mk9 skc_57 (by decide))
              have m1920 := m1174.kept (hF1.arr hr_hd9 skc_54 (by decide))
              have m1921 := m1175.kept (hF1.arr hr_kn skc_42 (by decide))
              have m1922 := m1176.kept (hF1.arr hr_sf skc_47 (by decide))
              have m1923 := m1177.kept (hF1.arr hr_sto skc_48 (by decide))
              have m1924 := m1178.kept (hF1.arr hr_stp9 skc_49 (by decide))
              have m1925 := (hF1.fld hr_o0 skc_3 (k := 6) (by decide) (by decide)).trans m1179
              have m1926 := (hF1.fld hr_o0 skc_3 (k := 3) (by decide) (by decide)).trans m1180
              have m1927 := (hF1.fld hr_o0 skc_3 (k := 0) (by decide) (by decide)).trans m1181
              have m1928 := (hF1.fld hr_o0 skc_3 (k := 16) (by decide) (by decide)).trans m1182
              have m1929 := (hF1.fld hr_o0 skc_3 (k := 5) (by decide) (by decide)).trans m1183
              have m1930 := (hF1.fld hr_o0 skc_3 (k := 15) (by decide) (by decide)).trans m1184
              have m1931 := (hF1.fld hr_o0 skc_3 (k := 7) (by decide) (by decide)).trans m1185
              have m1932 := (hF1.fld hr_lw skc_7 (k := 2) (by decide) (by decide)).trans m1186
              have m1933 := (hF1.fld hr_lw skc_7 (k := 11) (by decide) (by decide)).trans m1187
              have m1934 := (hF1.fld hr_lw skc_7 (k := 7) (by decide) (by decide)).trans m1188
              have m1935 := (hF1.fld hr_lw skc_7 (k := 8) (by decide) (by decide)).trans m1189
              have m1936 := (hF1.fld hr_lw skc_7 (k := 9) (by decide) (by decide)).trans m1190
              have m1937 := (hF1.fld hr_lw skc_7 (k := 10) (by decide) (by decide)).trans m1191
              have m1938 := (hF1.fld hr_o0 skc_3 (k := 14) (by decide) (by decide)).trans m1192
              have hF := hF.more hF1 (by decide)
              try dsimp only at hw1918
              obtain ⟨h1939, hf1940⟩ := hw1918
              refine lv_istore (lv' := [(5, .int r1917), (4, .int (nI i1168)), (3, .int z1169), (0, .ref o0), (1, .int p0), (2, .ref p1)]) hx hb dX0_giveFarms_91 hl (by decide) rfl (fun ls hl => ?_)
              refine lv_aload_n hx hb dX0_giveFarms_93 rfl (lv_at hl 3 rfl) ?_
              refine lv_aload_n hx hb dX0_giveFarms_94 rfl (lv_at hl 5 rfl) ?_
              refine tw_getN hx hb hts bF2_X3 hown hK hT hr_p1 shc_6 rfl 1 (by decide) (hE.nw 73 rfl) (fun _ h9 => h9) dX0_giveFarms_95 (fun v9 m1941 h9 => ?_)
              obtain ⟨b1942, rfl, hg1943⟩ := h9 _ rfl
              have hFc := gA_free hG hA hS
              refine va_calli (va_runV (As := [.ref b1942]) (rest := []) ⟨hx, hb, hml, hown, hts⟩ (c_bestFreeFarmH l dC dI kA adK adV G H nC nS o0 b1942 hd9 V1173 hT hg1943 hr_o0 m1926 hr_hd9 m1920 (by omega) (by omega)) (cwV 1 hts (goodIn_app (goodIn_r _ [22, 23, 24, 9] rfl (by decide +kernel)) (goodIn_ca (goodIn_r _ [10, 11, 12, 13, 14, 15, 16, 17, 18, 19, 20, 21, 9] rfl (by decide +kernel)) (bs2_in _ _))) rfl rfl rfl (by decide +kernel) ⟨(Nat.le_of_ble_eq_true rfl), (Nat.le_of_ble_eq_true rfl)⟩) ⟨fun a U g mk q => by obtain ⟨q0, q1, qK, qE⟩ := q; exact ⟨q0, q1, va_K.moved (u := U) (U := U.calling g mk a) (Vm.Alike.refl U.vm) qK, EVC.blind g mk a qE⟩, gH_rc hK hT hr_o0 shc_3 rfl, fun U hU hW => ⟨rfl, hU, va_K.moved hW.alike hK, hE.call hS hFc hU hW⟩⟩ rfl rfl hl.1 rfl (lv_room (Nat.le_of_ble_eq_true rfl)) dX0_giveFarms_98 ⟨(Nat.le_of_ble_eq_true rfl), (Nat.le_of_ble_eq_true rfl)⟩) hS (fun q _ h => hFc q h) hFc (fun r1944 u t H locs ht hvm hw1945 hB _ _ hS => ?_)
              obtain ⟨hT, hF1⟩ := hB
              rw [ht] at hT hF1
              have m1946 := m1919.kept (hF1.arr hr_mk9 skc_57 (by decide))
              have m1947 := m1920.kept (hF1.arr hr_hd9 skc_54 (by decide))
              have m1948 := m1921.kept (hF1.arr hr_kn skc_42 (by decide))
              have m1949 := m1922.kept (hF1.arr hr_sf skc_47 (by decide))
              have m1950 := m1923.kept (hF1.arr hr_sto skc_48 (by decide))
              have m1951 := m1924.kept (hF1.arr hr_stp9 skc_49 (by decide))
              have m1952 := (hF1.fld hr_o0 skc_3 (k := 6) (by decide) (by decide)).trans m1925
              have m1953 := (hF1.fld hr_o0 skc_3 (k := 3) (by decide) (by decide)).trans m1926
              have m1954 := (hF1.fld hr_o0 skc_3 (k := 0) (by decide) (by decide)).trans m1927
              have m1955 := (hF1.fld hr_o0 skc_3 (k := 16) (by decide) (by decide)).trans m1928
              have m1956 := (hF1.fld hr_o0 skc_3 (k := 5) (by decide) (by decide)).trans m1929
              have m1957 := (hF1.fld hr_o0 skc_3 (k := 15) (by decide) (by decide)).trans m1930
              have m1958 := (hF1.fld hr_o0 skc_3 (k := 7) (by decide) (by decide)).trans m1931
              have m1959 := (hF1.fld hr_lw skc_7 (k := 2) (by decide) (by decide)).trans m1932
              have m1960 := (hF1.fld hr_lw skc_7 (k := 11) (by decide) (by decide)).trans m1933
              have m1961 := (hF1.fld hr_lw skc_7 (k := 7) (by decide) (by decide)).trans m1934
              have m1962 := (hF1.fld hr_lw skc_7 (k := 8) (by decide) (by decide)).trans m1935
              have m1963 := (hF1.fld hr_lw skc_7 (k := 9) (by decide) (by decide)).trans m1936
              have m1964 := (hF1.fld hr_lw skc_7 (k := 10) (by decide) (by decide)).trans m1937
              have m1965 := (hF1.fld hr_o0 skc_3 (k := 14) (by decide) (by decide)).trans m1938
              have hF := hF.more hF1 (by decide)
              try dsimp only at hw1945
              obtain ⟨h1967, hf1968⟩ := hw1945
              refine lv_istore (lv' := [(6, .int r1944), (5, .int r1917), (4, .int (nI i1168)), (3, .int z1169), (0, .ref o0), (1, .int p0), (2, .ref p1)]) hx hb dX0_giveFarms_101 hl (by decide) rfl (fun ls hl => ?_)
              refine lv_iload hx hb dX0_giveFarms_103 (lv_at hl 1 rfl) ?_
              refine lv_iconst (v := (-1)) hx hb dX0_giveFarms_105 (by decide) ?_
              refine lv_icmp_eq (tgt := 155) hx hb dX0_giveFarms_106 (by decide) (fun c1969 => ?_) (fun c1969 => ?_)
              · have t1970 : r1917.toInt = (-1) := ti_eq c1969 rfl (by decide)
                refine lv_aload_n hx hb dX0_giveFarms_155 rfl (lv_at hl 4 rfl) ?_
                refine lv_dup hx hb dX0_giveFarms_156 rfl ?_
                refine tw_getM (v := .int hl) hx hb hts bF2_X0 hown hK hT hr_o0 shc_3 rfl 15 (by decide) (ht_at2 hts 1 rfl) (fun _ h9 => h9) m1957 dX0_giveFarms_157 ?_
                refine lv_iload_n hx hb dX0_giveFarms_160 rfl (lv_at hl 3 rfl) ?_
                refine lv_iadd hx hb dX0_giveFarms_161 ?_
                refine lv_topi (fun x1971 ex1971 => ?_)
                have t1972 : x1971.toInt = hl.toInt + z1169.toInt := ti_add ex1971 rfl rfl (by omega) (by omega)
                refine tw_put (v := .int x1971) (ty := .int) hx hb hts bF2_X0 tyX0 tyX0_ok nmX0 hown hK hT hG hS hr_o0 shc_3 rfl 15 (by decide) (ht_at2 hts 1 rfl) (fun _ h9 => h9) rfl (by decide +kernel) rfl rfl (gl_at rfl (gi_all _)) dX0_giveFarms_162 (fun H locs hT oq m1973 oj hS => ?_)
                have hF := hF.put hr_o0 skc_3 oq oj (by decide)
                have m1975 := m1947.kept (oq _ (gne hr_hd9 hr_o0 (by decide)))
                refine lv_iload_n hx hb dX0_giveFarms_165 rfl (lv_at hl 3 rfl) ?_
                exact W.iret (v := z1169) hx hb hr (fun t ht hW => ⟨⟨z1169, (x1971, V1173), rfl, (by exact ⟨(by have q8 := ti_all z1169; omega), (by have r9 := (show z1169.toInt = z1169.toInt from rfl); exact Or.inl ⟨by omega, ⟨by omega, by omega⟩, hfm1734, hno1735⟩), (by have := (show x1971.toInt = x1971.toInt from rfl); have := (show z1169.toInt = z1169.toInt from rfl); have := hct1736; exact ⟨by omega, by omega⟩)⟩), by (try dsimp only); rw [ht]; exact ⟨hT, hF, m1973, m1975, (fun h9 => by exfalso; have h8 := congrArg Int32.toInt h9; have z8 : (0 : Int32).toInt = 0 := (by decide); have := (show x1971.toInt = x1971.toInt from rfl); omega)⟩⟩, hS.F ht⟩) hS.2.2 dX0_giveFarms_166
              · have t1994 : r1917.toInt ≠ (-1) := ti_ne c1969 rfl (by decide)
                refine lv_iload hx hb dX0_giveFarms_109 (lv_at hl 0 rfl) ?_
                refine lv_iconst (v := (-1)) hx hb dX0_giveFarms_111 (by decide) ?_
                refine lv_icmp_ne (tgt := 118) hx hb dX0_giveFarms_112 (by decide) (fun c1995 => ?_) (fun c1995 => ?_)
                · have t1996 : r1944.toInt ≠ (-1) := ti_ne c1995 rfl (by decide)
                  refine lv_aload_n hx hb dX0_giveFarms_118 rfl (lv_at hl 4 rfl) ?_
                  refine tw_getM (v := .ref mk9) hx hb hts bF2_X0 hown hK hT hr_o0 shc_3 rfl 6 (by decide) (ht_at2 hts 3 rfl) (fun _ h9 => h9) m1952 dX0_giveFarms_119 ?_
                  refine lv_iload hx hb dX0_giveFarms_122 (lv_at hl 1 rfl) ?_
                  refine lv_iconst (v := (-1)) hx hb dX0_giveFarms_124 (by decide) ?_
                  refine tw_iast (i := r1917) (x := (-1)) hx hb hK hT hG hS hr_mk9 shc_57 rfl (vin_t (a := r1917.toInt) rfl (by omega) (by omega)) (gi_all _) dX0_giveFarms_125 (fun H locs hT oq m1997 oi hS => ?_)
                  have hF := hF.ast hr_mk9 skc_57 oq (by decide)
                  have m1998 := m1946.put m1997 oi
                  have m1999 := m1947.kept (oq _ (gne hr_hd9 hr_mk9 (by decide)))
                  have m2000 := m1948.kept (oq _ (gne hr_kn hr_mk9 (by decide)))
                  have m2001 := m1949.kept (oq _ (gne hr_sf hr_mk9 (by decide)))
                  have m2002 := m1950.kept (oq _ (gne hr_sto hr_mk9 (by decide)))
                  have m2003 := m1951.kept (oq _ (gne hr_stp9 hr_mk9 (by decide)))
                  have m2004 := (el_kept (oq _ (gne hr_o0 hr_mk9 (by decide)))).trans m1952
                  have m2005 := (el_kept (oq _ (gne hr_o0 hr_mk9 (by decide)))).trans m1953
                  have m2006 := (el_kept (oq _ (gne hr_o0 hr_mk9 (by decide)))).trans m1954
                  have m2007 := (el_kept (oq _ (gne hr_o0 hr_mk9 (by decide)))).trans m1955
                  have m2008 := (el_kept (oq _ (gne hr_o0 hr_mk9 (by decide)))).trans m1956
                  have m2009 := (el_kept (oq _ (gne hr_o0 hr_mk9 (by decide)))).trans m1957
                  have m2010 := (el_kept (oq _ (gne hr_o0 hr_mk9 (by decide)))).trans m1958
                  have m2011 := (el_kept (oq _ (gne hr_lw hr_mk9 (by decide)))).trans m1959
                  have m2012 := (el_kept (oq _ (gne hr_lw hr_mk9 (by decide)))).trans m1960
                  have m2013 := (el_kept (oq _ (gne hr_lw hr_mk9 (by decide)))).trans m1961
                  have m2014 := (el_kept (oq _ (gne hr_lw hr_mk9 (by decide)))).trans m1962
                  have m2015 := (el_kept (oq _ (gne hr_lw hr_mk9 (by decide)))).trans m1963
                  have m2016 := (el_kept (oq _ (gne hr_lw hr_mk9 (by decide)))).trans m1964
                  have m2017 := (el_kept (oq _ (gne hr_o0 hr_mk9 (by decide)))).trans m1965
                  refine lv_aload_n hx hb dX0_giveFarms_126 rfl (lv_at hl 4 rfl) ?_
                  refine tw_getM (v := .ref sA) hx hb hts bF2_X0 hown hK hT hr_o0 shc_3 rfl 0 (by decide) (ht_at2 hts 4 rfl) (fun _ h9 => h9) m2006 dX0_giveFarms_127 ?_
                  refine lv_iload hx hb dX0_giveFarms_130 (lv_at hl 1 rfl) ?_
                  refine tw_aald (i := r1917) hx hb hK hT hr_sA shc_51 rfl (vin_t (a := r1917.toInt) rfl (by omega) (by omega)) dX0_giveFarms_132 (fun v9 m2019 h9 => ?_)
                  obtain ⟨b2020, rfl, hg2021⟩ := (h9.1 (by have q9 := tn_of (show r1917.toInt = r1917.toInt from rfl) (by omega); omega))
                  refine lv_iload hx hb dX0_giveFarms_133 (lv_at hl 0 rfl) ?_
                  refine tw_putN (v := .int r1944) (ty := .int) hx hb hts bF2_X7 tyX7 tyX7_ok nmX7 hown hK hT hG hS hg2021 shc_10 rfl 7 (by decide) (hE.nw 61 rfl) (fun _ h9 => h9) rfl (by decide +kernel) rfl rfl (gl_at rfl (gi_of (show r1944.toInt = r1944.toInt from rfl) (by omega) (by omega))) dX0_giveFarms_135 (fun H locs hT oq m2022 oj hS => ?_)
                  have hF := hF.put hg2021 skc_10 oq oj (by decide)
                  have m2023 := m1998.kept (oq _ (gne hr_mk9 hg2021 (by decide)))
                  have m2024 := m1999.kept (oq _ (gne hr_hd9 hg2021 (by decide)))
                  have m2025 := m2000.kept (oq _ (gne hr_kn hg2021 (by decide)))
                  have m2026 := m2001.kept (oq _ (gne hr_sf hg2021 (by decide)))
                  have m2027 := m2002.kept (oq _ (gne hr_sto hg2021 (by decide)))
                  have m2028 := m2003.kept (oq _ (gne hr_stp9 hg2021 (by decide)))
                  have m2029 := (el_kept (oq _ (gne hr_o0 hg2021 (by decide)))).trans m2004
                  have m2030 := (el_kept (oq _ (gne hr_o0 hg2021 (by decide)))).trans m2005
                  have m2031 := (el_kept (oq _ (gne hr_o0 hg2021 (by decide)))).trans m2006
                  have m2032 := (el_kept (oq _ (gne hr_o0 hg2021 (by decide)))).trans m2007
                  have m2033 := (el_kept (oq _ (gne hr_o0 hg2021 (by decide)))).trans m2008
                  have m2034 := (el_kept (oq _ (gne hr_o0 hg2021 (by decide)))).trans m2009
                  have m2035 := (el_kept (oq _ (gne hr_o0 hg2021 (by decide)))).trans m2010
                  have m2036 := (el_kept (oq _ (gne hr_lw hg2021 (by decide)))).trans m2011
                  have m2037 := (el_kept (oq _ (gne hr_lw hg2021 (by decide)))).trans m2012
                  have m2038 := (el_kept (oq _ (gne hr_lw hg2021 (by decide)))).trans m2013
                  have m2039 := (el_kept (oq _ (gne hr_lw hg2021 (by decide)))).trans m2014
                  have m2040 := (el_kept (oq _ (gne hr_lw hg2021 (by decide)))).trans m2015
                  have m2041 := (el_kept (oq _ (gne hr_lw hg2021 (by decide)))).trans m2016
                  have m2042 := (el_kept (oq _ (gne hr_o0 hg2021 (by decide)))).trans m2017
                  refine lv_aload_n hx hb dX0_giveFarms_138 rfl (lv_at hl 4 rfl) ?_
                  refine tw_getM (v := .ref hd9) hx hb hts bF2_X0 hown hK hT hr_o0 shc_3 rfl 3 (by decide) (ht_at2 hts 11 rfl) (fun _ h9 => h9) m2030 dX0_giveFarms_139 ?_
                  refine lv_iload hx hb dX0_giveFarms_142 (lv_at hl 0 rfl) ?_
                  refine lv_iconst (v := 1) hx hb dX0_giveFarms_144 (by decide) ?_
                  refine tw_zast (i := r1944) (x := 1) hx hb hK hT hG hS hr_hd9 shc_54 rfl (vin_t (a := r1944.toInt) rfl (by omega) (by omega)) (gi_z (rg_t (a := 1) (by decide) (by first | decide | omega) (by first | decide | omega)) (by decide) (by decide)) dX0_giveFarms_145 (fun H locs hT oq m2046 oi hS => ?_)
                  have hF := hF.ast hr_hd9 skc_54 oq (by decide)
                  have m2047 := m2023.kept (oq _ (gne hr_mk9 hr_hd9 (by decide)))
                  have m2048 := m2024.put (show el H hd9 _ = some (.int 1) from m2046) oi
                  have m2049 := m2025.kept (oq _ (gne hr_kn hr_hd9 (by decide)))
                  have m2050 := m2026.kept (oq _ (gne hr_sf hr_hd9 (by decide)))
                  have m2051 := m2027.kept (oq _ (gne hr_sto hr_hd9 (by decide)))
                  have m2052 := m2028.kept (oq _ (gne hr_stp9 hr_hd9 (by decide)))
                  have m2053 := (el_kept (oq _ (gne hr_o0 hr_hd9 (by decide)))).trans m2029
                  have m2054 := (el_kept (oq _ (gne hr_o0 hr_hd9 (by decide)))).trans m2030
                  have m2055 := (el_kept (oq _ (gne hr_o0 hr_hd9 (by decide)))).trans m2031
                  have m2056 := (el_kept (oq _ (gne hr_o0 hr_hd9 (by decide)))).trans m2032
                  have m2057 := (el_kept (oq _ (gne hr_o0 hr_hd9 (by decide)))).trans m2033
                  have m2058 := (el_kept (oq _ (gne hr_o0 hr_hd9 (by decide)))).trans m2034
                  have m2059 := (el_kept (oq _ (gne hr_o0 hr_hd9 (by decide)))).trans m2035
                  have m2060 := (el_kept (oq _ (gne hr_lw hr_hd9 (by decide)))).trans m2036
                  have m2061 := (el_kept (oq _ (gne hr_lw hr_hd9 (by decide)))).trans m2037
                  have m2062 := (el_kept (oq _ (gne hr_lw hr_hd9 (by decide)))).trans m2038
                  have m2063 := (el_kept (oq _ (gne hr_lw hr_hd9 (by decide)))).trans m2039
                  have m2064 := (el_kept (oq _ (gne hr_lw hr_hd9 (by decide)))).trans m2040
                  have m2065 := (el_kept (oq _ (gne hr_lw hr_hd9 (by decide)))).trans m2041
                  have m2066 := (el_kept (oq _ (gne hr_o0 hr_hd9 (by decide)))).trans m2042
                  obtain ⟨x2071, ex2071⟩ : ∃ y : Int32, y = z1169 + 1 := ⟨_, rfl⟩
                  have t2072 : x2071.toInt = z1169.toInt + 1 := ti_add ex2071 rfl (by decide) (by omega) (by omega)
                  refine lv_iinc (v := x2071) (lv' := [(3, .int x2071), (6, .int r1944), (5, .int r1917), (4, .int (nI i1168)), (0, .ref o0), (1, .int p0), (2, .ref p1)]) hx hb dX0_giveFarms_146 hl (k := 3) rfl (by first | (rw [ex2071]; done) | (rw [ex2071]; rfl)) (by decide) rfl (fun ls hl => ?_)
                  refine lv_iinc (v := nI (i1168 + 1)) (lv' := [(4, .int (nI (i1168 + 1))), (3, .int x2071), (6, .int r1944), (5, .int r1917), (0, .ref o0), (1, .int p0), (2, .ref p1)]) hx hb dX0_giveFarms_149 hl (k := 3) rfl (nI_add i1168 1) (by decide) rfl (fun ls hl => ?_)
                  refine lv_goto (tgt := 81) hx hb dX0_giveFarms_152 (by decide) ?_
                  exact ih1618 (i1168 + 1) (by omega) (by omega) x2071 (cu V1171 r1917.toNatClampNeg (-1 : Int32)) (cu V1173 r1944.toNatClampNeg (1 : Int32)) ⟨(by have q9 := (show x2071.toInt = x2071.toInt from rfl); (try have q8 := ti_all x2071); omega), ⟨(by have := (show x2071.toInt = x2071.toInt from rfl); rw [zct_1 (by exact (hf1968.resolve_left (fun h8 => by omega)).2.2) (by decide) 30 (by have := tn_of (show r1944.toInt = r1944.toInt from rfl) (by omega); omega)]; have := hct1736; omega), Or.inr ⟨by omega, by have := (show x2071.toInt = x2071.toInt from rfl); omega, hfm1734, hno1735⟩⟩, (by have := (show x2071.toInt = x2071.toInt from rfl); omega)⟩ _ _ hT hF (fun h9 => absurd h9 (by omega)) hS m2047 m2048 m2049 m2050 m2051 m2052 m2053 m2054 m2055 m2056 m2057 m2058 m2059 m2060 m2061 m2062 m2063 m2064 m2065 m2066 ls (lv_sub hl [0, 1, 4, 5, 6] rfl)
                · have t2073 : r1944.toInt = (-1) := ti_eq c1995 rfl (by decide)
                  refine lv_goto (tgt := 155) hx hb dX0_giveFarms_115 (by decide) ?_
                  refine lv_aload_n hx hb dX0_giveFarms_155 rfl (lv_at hl 4 rfl) ?_
                  refine lv_dup hx hb dX0_giveFarms_156 rfl ?_
                  refine tw_getM (v := .int hl) hx hb hts bF2_X0 hown hK hT hr_o0 shc_3 rfl 15 (by decide) (ht_at2 hts 1 rfl) (fun _ h9 => h9) m1957 dX0_giveFarms_157 ?_
                  refine lv_iload_n hx hb dX0_giveFarms_160 rfl (lv_at hl 3 rfl) ?_
                  refine lv_iadd hx hb dX0_giveFarms_161 ?_
                  refine lv_topi (fun x2074 ex2074 => ?_)
                  have t2075 : x2074.toInt = hl.toInt + z1169.toInt := ti_add ex2074 rfl rfl (by omega) (by omega)
                  refine tw_put (v := .int x2074) (ty := .int) hx hb hts bF2_X0 tyX0 tyX0_ok nmX0 hown hK hT hG hS hr_o0 shc_3 rfl 15 (by decide) (ht_at2 hts 1 rfl) (fun _ h9 => h9) rfl (by decide +kernel) rfl rfl (gl_at rfl (gi_all _)) dX0_giveFarms_162 (fun H locs hT oq m2076 oj hS => ?_)
                  have hF := hF.put hr_o0 skc_3 oq oj (by decide)
                  have m2078 := m1947.kept (oq _ (gne hr_hd9 hr_o0 (by decide)))
                  refine lv_iload_n hx hb dX0_giveFarms_165 rfl (lv_at hl 3 rfl) ?_
                  exact W.iret (v := z1169) hx hb hr (fun t ht hW => ⟨⟨z1169, (x2074, V1173), rfl, (by exact ⟨(by have q8 := ti_all z1169; omega), (by have r9 := (show z1169.toInt = z1169.toInt from rfl); exact Or.inl ⟨by omega, ⟨by omega, by omega⟩, hfm1734, hno1735⟩), (by have := (show x2074.toInt = x2074.toInt from rfl); have := (show z1169.toInt = z1169.toInt from rfl); have := hct1736; exact ⟨by omega, by omega⟩)⟩), by (try dsimp only); rw [ht]; exact ⟨hT, hF, m2076, m2078, (fun h9 => by exfalso; have h8 := congrArg Int32.toInt h9; have z8 : (0 : Int32).toInt = 0 := (by decide); have := (show x2074.toInt = x2074.toInt from rfl); omega)⟩⟩, hS.F ht⟩) hS.2.2 dX0_giveFarms_166
      exact key1618 (60 - 0) 0 (by omega) (Nat.le_refl _) 0 V2 vh ⟨(by have q9 := (show (0 : Int32).toInt = 0 from (by decide)); (try have q8 := ti_all (0 : Int32)); omega), ⟨hct, Or.inl ⟨by omega, by decide, rfl, by rw [show nS.toNat = 60 from by omega]; exact hj22⟩⟩, (by have := (show (0 : Int32).toInt = 0 from (by decide)); omega)⟩ _ _ hT hF (fun _ => hF2) hS m3 m4 m5 m6 m7 m8 m9 m10 m11 m12 m13 m14 m15 m16 m17 m18 m19 m20 m21 m1164 ls (lv_sub hl [0, 1, 2, 3, 4] rfl)
    | succ n1162 ih1162 =>
      intro i1 hn1162 hlo1163 V2 ⟨hj22, hj23⟩ H locs hT hF hF2 hS m3 m4 m5 m6 m7 m8 m9 m10 m11 m12 m13 m14 m15 m16 m17 m18 m19 m20 m21 ls hl
      have hlt2096 : i1 < 60 := by omega
      refine lv_iload_n hx hb dX0_giveFarms_2 rfl (lv_at hl 0 rfl) ?_
      refine lv_aload_n hx hb dX0_giveFarms_3 rfl (lv_at hl 1 rfl) ?_
      refine tw_get hx hb hts bF2_X0 hown hK hT hr_o0 shc_3 rfl 14 (by decide) (ht_at2 hts 0 rfl) (fun _ h9 => h9) dX0_giveFarms_4 (fun v9 m2097 h9 => ?_)
      obtain ⟨x2098, rfl, gx2098, kx2098⟩ := h9 _ rfl
      refine lv_icmp_ge (tgt := 76) hx hb dX0_giveFarms_7 (by decide) (fun c2099 => ?_) (fun c2099 => ?_)
      · have t2100 : x2098.toInt ≤ ((i1 : Nat) : Int) := ti_le c2099 rfl (nI_toInt (by omega))
        refine lv_iconst (v := 0) hx hb dX0_giveFarms_76 (by decide) ?_
        refine lv_istore_n (lv' := [(3, .int 0), (0, .ref o0), (1, .int p0), (2, .ref p1)]) hx hb dX0_giveFarms_77 rfl hl (by decide) rfl (fun ls hl => ?_)
        refine lv_iconst (v := 0) hx hb dX0_giveFarms_78 (by decide) ?_
        refine lv_istore (lv' := [(4, .int 0), (3, .int 0), (0, .ref o0), (1, .int p0), (2, .ref p1)]) hx hb dX0_giveFarms_79 hl (by decide) rfl (fun ls hl => ?_)
        have key2551 : ∀ (n2551 i2101 : Nat), i2101 + n2551 = 60 → 0 ≤ i2101 → ∀ (z2102 : Int32), ∀ (V2104 : Nat → Int32), ∀ (V2106 : Nat → Int32), ((0 ≤ z2102.toInt ∧ z2102.toInt ≤ 60) ∧ ((zct V2106 30 = z2102.toInt) ∧ ((((i2101 : Nat) : Int) = 0 ∧ z2102.toInt = 0 ∧ vh = V2106 ∧ zPm (zLs (fun _ => 0) vA vD vC vU vI vW (fun _ => 0)) A9 V2104 nS.toNat) ∨ (1 ≤ ((i2101 : Nat) : Int) ∧ 1 ≤ z2102.toInt ∧ 0 < fm.toInt ∧ zNO (zLs (fun _ => 0) vA vD vC vU vI vW (fun _ => 0)) A9 nS))) ∧ (0 ≤ z2102.toInt ∧ z2102.toInt ≤ ((i2101 : Nat) : Int))) → ∀ (H : Heap) (locs : List Loc), gH (dC, dI) kA (SHc nC nS) G H → gF (dC, dI) SKc G ([(3, 15), (10, 7), (50, 0), (54, 0), (56, 0), (57, 0)] : List (Nat × Nat)) s.heap H → (i2101 = 0 → gF (dC, dI) SKc G ([(3, 15), (50, 0), (56, 0), (57, 0)] : List (Nat × Nat)) s.heap H) → va_S A s.heap H locs → ct H mk9 60 V2104 → ct H hd9 30 V2106 → ct H kn 20 vK → ct H sf 20 vF → ct H sto 20 vT → ct H stp9 400 vS → el H o0 (dI 3 6) = some (.ref mk9) → el H o0 (dI 3 3) = some (.ref hd9) → el H o0 (dI 3 0) = some (.ref sA) → el H o0 (dI 3 16) = some (.int fm) → el H o0 (dI 3 5) = some (.ref fa9) → el H o0 (dI 3 15) = some (.int hl) → el H o0 (dI 3 7) = some (.ref lw) → el H lw (dI 7 2) = some (.ref kn) → el H lw (dI 7 11) = some (.int ln) → el H lw (dI 7 7) = some (.ref sf) → el H lw (dI 7 8) = some (.ref sto) → el H lw (dI 7 9) = some (.ref stp9) → el H lw (dI 7 10) = some (.ref stk) → el H o0 (dI 3 14) = some (.int x2098) → ∀ ls : Array Slot, lv_has ls 7 [(4, .int (nI i2101)), (3, .int z2102), (0, .ref o0), (1, .int p0), (2, .ref p1)] → W p l e (headSpec w_c_giveFarmsZ ({ frames := 5, cells := 0, slots := 0, locals := 135 })).room s m #[.ref o0, .int p0, .ref p1] below meth c H locs 0 0 (MQ below (va_Qi (fun (r : Int32) (u : Int32 × (Nat → Int32)) => match u with | (hl1, vh1) => (0 ≤ r.toInt ∧ r.toInt ≤ 60) ∧ ((0 < r.toInt ∧ ((1 ≤ p0.toInt ∧ p0.toInt ≤ 60) ∧ 0 < fm.toInt ∧ zNO (zLs (fun _ => 0) vA vD vC vU vI vW (fun _ => 0)) A9 nS)) ∨ (r.toInt = 0 ∧ ¬ ((1 ≤ p0.toInt ∧ p0.toInt ≤ 60) ∧ 0 < fm.toInt ∧ zNO (zLs (fun _ => 0) vA vD vC vU vI vW (fun _ => 0)) A9 nS) ∧ vh = vh1)) ∧ (hl1.toInt = r.toInt ∧ zct vh1 30 = hl1.toInt)) (fun (u : Int32 × (Nat → Int32)) (t : State) => match u with | (hl1, vh1) => gH (dC, dI) kA (SHc nC nS) G t.heap ∧ gF (dC, dI) SKc G ([(3, 15), (10, 7), (50, 0), (54, 0), (56, 0), (57, 0)] : List (Nat × Nat)) s.heap t.heap ∧ el t.heap o0 (dI 3 15) = some (.int hl1) ∧ ct t.heap hd9 30 vh1 ∧ (hl1 = 0 → gF (dC, dI) SKc G ([(3, 15), (50, 0), (56, 0), (57, 0)] : List (Nat × Nat)) s.heap t.heap)) A) #[.ref o0, .int p0, .ref p1] s 0 0 A) (F0 m 81 ls []) := by
          intro n2551
          induction n2551 with
          | zero =>
            intro i2101 hn2551 hlo2552 z2102 V2104 V2106 ⟨h2103, hj2126, hj2127⟩ H locs hT hF hF3 hS m2105 m2107 m2108 m2109 m2110 m2111 m2112 m2113 m2114 m2115 m2116 m2117 m2118 m2119 m2120 m2121 m2122 m2123 m2124 m2125 ls hl
            obtain rfl : 60 = i2101 := by omega
            refine lv_iload hx hb dX0_giveFarms_81 (lv_at hl 0 rfl) ?_
            refine lv_iload_n hx hb dX0_giveFarms_83 rfl (lv_at hl 3 rfl) ?_
            refine lv_icmp_ge (tgt := 155) hx hb dX0_giveFarms_84 (by decide) (fun c2553 => ?_) (fun c2553 => (by exfalso; have q9 : ((60 : Nat) : Int) < p0.toInt := ti_nle c2553 rfl (nI_toInt (by omega)); omega))
            have t2554 : p0.toInt ≤ ((60 : Nat) : Int) := ti_le c2553 rfl (nI_toInt (by omega))
            obtain ⟨hct2562, hj2126x⟩ := hj2126
            rcases hj2126x with ⟨ha2555, ha2556, rfl, hpm2557⟩ | ⟨hb2558, hb2559, hfm2560, hno2561⟩
            · have hF2 := hF3 (by omega)
              refine lv_aload_n hx hb dX0_giveFarms_155 rfl (lv_at hl 2 rfl) ?_
              refine lv_dup hx hb dX0_giveFarms_156 rfl ?_
              refine tw_getM (v := .int hl) hx hb hts bF2_X0 hown hK hT hr_o0 shc_3 rfl 15 (by decide) (ht_at2 hts 1 rfl) (fun _ h9 => h9) m2117 dX0_giveFarms_157 ?_
              refine lv_iload_n hx hb dX0_giveFarms_160 rfl (lv_at hl 1 rfl) ?_
              refine lv_iadd hx hb dX0_giveFarms_161 ?_
              refine lv_topi (fun x2563 ex2563 => ?_)
              have t2564 : x2563.toInt = hl.toInt + z2102.toInt := ti_add ex2563 rfl rfl (by omega) (by omega)
              refine tw_put (v := .int x2563) (ty := .int) hx hb hts bF2_X0 tyX0 tyX0_ok nmX0 hown hK hT hG hS hr_o0 shc_3 rfl 15 (by decide) (ht_at2 hts 1 rfl) (fun _ h9 => h9) rfl (by decide +kernel) rfl rfl (gl_at rfl (gi_all _)) dX0_giveFarms_162 (fun H locs hT oq m2565 oj hS => ?_)
              have hF := hF.put hr_o0 skc_3 oq oj (by decide)
              have hF2 := hF2.put hr_o0 skc_3 oq oj (by decide)
              have m2567 := m2107.kept (oq _ (gne hr_hd9 hr_o0 (by decide)))
              refine lv_iload_n hx hb dX0_giveFarms_165 rfl (lv_at hl 1 rfl) ?_
              exact W.iret (v := z2102) hx hb hr (fun t ht hW => ⟨⟨z2102, (x2563, vh), rfl, (by exact ⟨(by have q8 := ti_all z2102; omega), (by have r9 := (show z2102.toInt = z2102.toInt from rfl); exact Or.inr ⟨by omega, fun h8 => by have := h8.1; omega, rfl⟩), (by have := (show x2563.toInt = x2563.toInt from rfl); have := (show z2102.toInt = z2102.toInt from rfl); have := hct2562; exact ⟨by omega, by omega⟩)⟩), by (try dsimp only); rw [ht]; exact ⟨hT, hF, m2565, m2567, (fun _ => hF2)⟩⟩, hS.F ht⟩) hS.2.2 dX0_giveFarms_166
            · refine lv_aload_n hx hb dX0_giveFarms_155 rfl (lv_at hl 2 rfl) ?_
              refine lv_dup hx hb dX0_giveFarms_156 rfl ?_
              refine tw_getM (v := .int hl) hx hb hts bF2_X0 hown hK hT hr_o0 shc_3 rfl 15 (by decide) (ht_at2 hts 1 rfl) (fun _ h9 => h9) m2117 dX0_giveFarms_157 ?_
              refine lv_iload_n hx hb dX0_giveFarms_160 rfl (lv_at hl 1 rfl) ?_
              refine lv_iadd hx hb dX0_giveFarms_161 ?_
              refine lv_topi (fun x2585 ex2585 => ?_)
              have t2586 : x2585.toInt = hl.toInt + z2102.toInt := ti_add ex2585 rfl rfl (by omega) (by omega)
              refine tw_put (v := .int x2585) (ty := .int) hx hb hts bF2_X0 tyX0 tyX0_ok nmX0 hown hK hT hG hS hr_o0 shc_3 rfl 15 (by decide) (ht_at2 hts 1 rfl) (fun _ h9 => h9) rfl (by decide +kernel) rfl rfl (gl_at rfl (gi_all _)) dX0_giveFarms_162 (fun H locs hT oq m2587 oj hS => ?_)
              have hF := hF.put hr_o0 skc_3 oq oj (by decide)
              have m2589 := m2107.kept (oq _ (gne hr_hd9 hr_o0 (by decide)))
              refine lv_iload_n hx hb dX0_giveFarms_165 rfl (lv_at hl 1 rfl) ?_
              exact W.iret (v := z2102) hx hb hr (fun t ht hW => ⟨⟨z2102, (x2585, V2106), rfl, (by exact ⟨(by have q8 := ti_all z2102; omega), (by have r9 := (show z2102.toInt = z2102.toInt from rfl); exact Or.inl ⟨by omega, ⟨by omega, by omega⟩, hfm2560, hno2561⟩), (by have := (show x2585.toInt = x2585.toInt from rfl); have := (show z2102.toInt = z2102.toInt from rfl); have := hct2562; exact ⟨by omega, by omega⟩)⟩), by (try dsimp only); rw [ht]; exact ⟨hT, hF, m2587, m2589, (fun h9 => by exfalso; have h8 := congrArg Int32.toInt h9; have z8 : (0 : Int32).toInt = 0 := (by decide); have := (show x2585.toInt = x2585.toInt from rfl); omega)⟩⟩, hS.F ht⟩) hS.2.2 dX0_giveFarms_166
          | succ n2551 ih2551 =>
            intro i2101 hn2551 hlo2552 z2102 V2104 V2106 ⟨h2103, hj2126, hj2127⟩ H locs hT hF hF3 hS m2105 m2107 m2108 m2109 m2110 m2111 m2112 m2113 m2114 m2115 m2116 m2117 m2118 m2119 m2120 m2121 m2122 m2123 m2124 m2125 ls hl
            have hlt2606 : i2101 < 60 := by omega
            refine lv_iload hx hb dX0_giveFarms_81 (lv_at hl 0 rfl) ?_
            refine lv_iload_n hx hb dX0_giveFarms_83 rfl (lv_at hl 3 rfl) ?_
            refine lv_icmp_ge (tgt := 155) hx hb dX0_giveFarms_84 (by decide) (fun c2607 => ?_) (fun c2607 => ?_)
            · have t2608 : p0.toInt ≤ ((i2101 : Nat) : Int) := ti_le c2607 rfl (nI_toInt (by omega))
              obtain ⟨hct2616, hj2126x⟩ := hj2126
              rcases hj2126x with ⟨ha2609, ha2610, rfl, hpm2611⟩ | ⟨hb2612, hb2613, hfm2614, hno2615⟩
              · have hF2 := hF3 (by omega)
                refine lv_aload_n hx hb dX0_giveFarms_155 rfl (lv_at hl 2 rfl) ?_
                refine lv_dup hx hb dX0_giveFarms_156 rfl ?_
                refine tw_getM (v := .int hl) hx hb hts bF2_X0 hown hK hT hr_o0 shc_3 rfl 15 (by decide) (ht_at2 hts 1 rfl) (fun _ h9 => h9) m2117 dX0_giveFarms_157 ?_
                refine lv_iload_n hx hb dX0_giveFarms_160 rfl (lv_at hl 1 rfl) ?_
                refine lv_iadd hx hb dX0_giveFarms_161 ?_
                refine lv_topi (fun x2617 ex2617 => ?_)
                have t2618 : x2617.toInt = hl.toInt + z2102.toInt := ti_add ex2617 rfl rfl (by omega) (by omega)
                refine tw_put (v := .int x2617) (ty := .int) hx hb hts bF2_X0 tyX0 tyX0_ok nmX0 hown hK hT hG hS hr_o0 shc_3 rfl 15 (by decide) (ht_at2 hts 1 rfl) (fun _ h9 => h9) rfl (by decide +kernel) rfl rfl (gl_at rfl (gi_all _)) dX0_giveFarms_162 (fun H locs hT oq m2619 oj hS => ?_)
                have hF := hF.put hr_o0 skc_3 oq oj (by decide)
                have hF2 := hF2.put hr_o0 skc_3 oq oj (by decide)
                have m2621 := m2107.kept (oq _ (gne hr_hd9 hr_o0 (by decide)))
                refine lv_iload_n hx hb dX0_giveFarms_165 rfl (lv_at hl 1 rfl) ?_
                exact W.iret (v := z2102) hx hb hr (fun t ht hW => ⟨⟨z2102, (x2617, vh), rfl, (by exact ⟨(by have q8 := ti_all z2102; omega), (by have r9 := (show z2102.toInt = z2102.toInt from rfl); exact Or.inr ⟨by omega, fun h8 => by have := h8.1; omega, rfl⟩), (by have := (show x2617.toInt = x2617.toInt from rfl); have := (show z2102.toInt = z2102.toInt from rfl); have := hct2616; exact ⟨by omega, by omega⟩)⟩), by (try dsimp only); rw [ht]; exact ⟨hT, hF, m2619, m2621, (fun _ => hF2)⟩⟩, hS.F ht⟩) hS.2.2 dX0_giveFarms_166
              · refine lv_aload_n hx hb dX0_giveFarms_155 rfl (lv_at hl 2 rfl) ?_
                refine lv_dup hx hb dX0_giveFarms_156 rfl ?_
                refine tw_getM (v := .int hl) hx hb hts bF2_X0 hown hK hT hr_o0 shc_3 rfl 15 (by decide) (ht_at2 hts 1 rfl) (fun _ h9 => h9) m2117 dX0_giveFarms_157 ?_
                refine lv_iload_n hx hb dX0_giveFarms_160 rfl (lv_at hl 1 rfl) ?_
                refine lv_iadd hx hb dX0_giveFarms_161 ?_
                refine lv_topi (fun x2639 ex2639 => ?_)
                have t2640 : x2639.toInt = hl.toInt + z2102.toInt := ti_add ex2639 rfl rfl (by omega) (by omega)
                refine tw_put (v := .int x2639) (ty := .int) hx hb hts bF2_X0 tyX0 tyX0_ok nmX0 hown hK hT hG hS hr_o0 shc_3 rfl 15 (by decide) (ht_at2 hts 1 rfl) (fun _ h9 => h9) rfl (by decide +kernel) rfl rfl (gl_at rfl (gi_all _)) dX0_giveFarms_162 (fun H locs hT oq m2641 oj hS => ?_)
                have hF := hF.put hr_o0 skc_3 oq oj (by decide)
                have m2643 := m2107.kept (oq _ (gne hr_hd9 hr_o0 (by decide)))
                refine lv_iload_n hx hb dX0_giveFarms_165 rfl (lv_at hl 1 rfl) ?_
                exact W.iret (v := z2102) hx hb hr (fun t ht hW => ⟨⟨z2102, (x2639, V2106), rfl, (by exact ⟨(by have q8 := ti_all z2102; omega), (by have r9 := (show z2102.toInt = z2102.toInt from rfl); exact Or.inl ⟨by omega, ⟨by omega, by omega⟩, hfm2614, hno2615⟩), (by have := (show x2639.toInt = x2639.toInt from rfl); have := (show z2102.toInt = z2102.toInt from rfl); have := hct2616; exact ⟨by omega, by omega⟩)⟩), by (try dsimp only); rw [ht]; exact ⟨hT, hF, m2641, m2643, (fun h9 => by exfalso; have h8 := congrArg Int32.toInt h9; have z8 : (0 : Int32).toInt = 0 := (by decide); have := (show x2639.toInt = x2639.toInt from rfl); omega)⟩⟩, hS.F ht⟩) hS.2.2 dX0_giveFarms_166
            · have t2661 : ((i2101 : Nat) : Int) < p0.toInt := ti_nle c2607 rfl (nI_toInt (by omega))
              obtain ⟨hct2669, hj2126x⟩ := hj2126
              rcases hj2126x with ⟨ha2662, ha2663, rfl, hpm2664⟩ | ⟨hb2665, hb2666, hfm2667, hno2668⟩
              · have hF2 := hF3 (by omega)
                refine lv_aload_n hx hb dX0_giveFarms_87 rfl (lv_at hl 2 rfl) ?_
                have hFc := gA_free hG hA hS
                refine va_calli (va_runV (As := []) (rest := []) ⟨hx, hb, hml, hown, hts⟩ (c_firstByMarkZ l dC dI kA adK adV G H nC nS o0 mk9 V2104 hT hr_o0 m2112 hr_mk9 m2105 (by omega) (by omega)) (cwV 0 hts (goodIn_app (goodIn_r _ [6, 7, 8, 9] rfl (by decide +kernel)) (goodIn_ca (goodIn_r _ [3, 1, 4, 5] rfl (by decide +kernel)) (bs2_in _ _))) rfl rfl rfl (by decide +kernel) ⟨(Nat.le_of_ble_eq_true rfl), (Nat.le_of_ble_eq_true rfl)⟩) ⟨fun a U g mk q => by obtain ⟨q0, q1, qK, qE⟩ := q; exact ⟨q0, q1, va_K.moved (u := U) (U := U.calling g mk a) (Vm.Alike.refl U.vm) qK, EVC.blind g mk a qE⟩, gH_rc hK hT hr_o0 shc_3 rfl, fun U hU hW => ⟨rfl, hU, va_K.moved hW.alike hK, hE.call hS hFc hU hW⟩⟩ rfl rfl hl.1 rfl (lv_room (Nat.le_of_ble_eq_true rfl)) dX0_giveFarms_88 ⟨(Nat.le_of_ble_eq_true rfl), (Nat.le_of_ble_eq_true rfl)⟩) hS (fun q _ h => hFc q h) hFc (fun r2670 u t H locs ht hvm hw2671 hB _ _ hS => ?_)
                obtain ⟨hT, hF1⟩ := hB
                rw [ht] at hT hF1
                have m2672 := m2105.kept (hF1.arr hr_mk9 skc_57 (by decide))
                have m2673 := m2107.kept (hF1.arr hr_hd9 skc_54 (by decide))
                have m2674 := m2108.kept (hF1.arr hr_kn skc_42 (by decide))
                have m2675 := m2109.kept (hF1.arr hr_sf skc_47 (by decide))
                have m2676 := m2110.kept (hF1.arr hr_sto skc_48 (by decide))
                have m2677 := m2111.kept (hF1.arr hr_stp9 skc_49 (by decide))
                have m2678 := (hF1.fld hr_o0 skc_3 (k := 6) (by decide) (by decide)).trans m2112
                have m2679 := (hF1.fld hr_o0 skc_3 (k := 3) (by decide) (by decide)).trans m2113
                have m2680 := (hF1.fld hr_o0 skc_3 (k := 0) (by decide) (by decide)).trans m2114
                have m2681 := (hF1.fld hr_o0 skc_3 (k := 16) (by decide) (by decide)).trans m2115
                have m2682 := (hF1.fld hr_o0 skc_3 (k := 5) (by decide) (by decide)).trans m2116
                have m2683 := (hF1.fld hr_o0 skc_3 (k := 15) (by decide) (by decide)).trans m2117
                have m2684 := (hF1.fld hr_o0 skc_3 (k := 7) (by decide) (by decide)).trans m2118
                have m2685 := (hF1.fld hr_lw skc_7 (k := 2) (by decide) (by decide)).trans m2119
                have m2686 := (hF1.fld hr_lw skc_7 (k := 11) (by decide) (by decide)).trans m2120
                have m2687 := (hF1.fld hr_lw skc_7 (k := 7) (by decide) (by decide)).trans m2121
                have m2688 := (hF1.fld hr_lw skc_7 (k := 8) (by decide) (by decide)).trans m2122
                have m2689 := (hF1.fld hr_lw skc_7 (k := 9) (by decide) (by decide)).trans m2123
                have m2690 := (hF1.fld hr_lw skc_7 (k := 10) (by decide) (by decide)).trans m2124
                have m2691 := (hF1.fld hr_o0 skc_3 (k := 14) (by decide) (by decide)).trans m2125
                have hF := hF.more hF1 (by decide)
                have hF2 := hF2.more hF1 (by decide)
                try dsimp only at hw2671
                obtain ⟨h2692, hf2693⟩ := hw2671
                refine lv_istore (lv' := [(5, .int r2670), (4, .int (nI i2101)), (3, .int z2102), (0, .ref o0), (1, .int p0), (2, .ref p1)]) hx hb dX0_giveFarms_91 hl (by decide) rfl (fun ls hl => ?_)
                refine lv_aload_n hx hb dX0_giveFarms_93 rfl (lv_at hl 3 rfl) ?_
                refine lv_aload_n hx hb dX0_giveFarms_94 rfl (lv_at hl 5 rfl) ?_
                refine tw_getN hx hb hts bF2_X3 hown hK hT hr_p1 shc_6 rfl 1 (by decide) (hE.nw 73 rfl) (fun _ h9 => h9) dX0_giveFarms_95 (fun v9 m2694 h9 => ?_)
                obtain ⟨b2695, rfl, hg2696⟩ := h9 _ rfl
                have hFc := gA_free hG hA hS
                refine va_calli (va_runV (As := [.ref b2695]) (rest := []) ⟨hx, hb, hml, hown, hts⟩ (c_bestFreeFarmZ l dC dI kA adK adV G H nC nS o0 b2695 hd9 fm vh hT hg2696 hr_o0 m2679 hr_hd9 m2681 (by have q8 := ti_all fm; omega) hnh m2673 (by omega) (by omega)) (cwV 1 hts (goodIn_app (goodIn_r _ [22, 23, 24, 9] rfl (by decide +kernel)) (goodIn_ca (goodIn_r _ [10, 11, 12, 13, 14, 15, 16, 17, 18, 19, 20, 21, 9] rfl (by decide +kernel)) (bs2_in _ _))) rfl rfl rfl (by decide +kernel) ⟨(Nat.le_of_ble_eq_true rfl), (Nat.le_of_ble_eq_true rfl)⟩) ⟨fun a U g mk q => by obtain ⟨q0, q1, qK, qE⟩ := q; exact ⟨q0, q1, va_K.moved (u := U) (U := U.calling g mk a) (Vm.Alike.refl U.vm) qK, EVC.blind g mk a qE⟩, gH_rc hK hT hr_o0 shc_3 rfl, fun U hU hW => ⟨rfl, hU, va_K.moved hW.alike hK, hE.call hS hFc hU hW⟩⟩ rfl rfl hl.1 rfl (lv_room (Nat.le_of_ble_eq_true rfl)) dX0_giveFarms_98 ⟨(Nat.le_of_ble_eq_true rfl), (Nat.le_of_ble_eq_true rfl)⟩) hS (fun q _ h => hFc q h) hFc (fun r2697 u t H locs ht hvm hw2698 hB _ _ hS => ?_)
                obtain ⟨hT, hF1⟩ := hB
                rw [ht] at hT hF1
                have m2699 := m2672.kept (hF1.arr hr_mk9 skc_57 (by decide))
                have m2700 := m2673.kept (hF1.arr hr_hd9 skc_54 (by decide))
                have m2701 := m2674.kept (hF1.arr hr_kn skc_42 (by decide))
                have m2702 := m2675.kept (hF1.arr hr_sf skc_47 (by decide))
                have m2703 := m2676.kept (hF1.arr hr_sto skc_48 (by decide))
                have m2704 := m2677.kept (hF1.arr hr_stp9 skc_49 (by decide))
                have m2705 := (hF1.fld hr_o0 skc_3 (k := 6) (by decide) (by decide)).trans m2678
                have m2706 := (hF1.fld hr_o0 skc_3 (k := 3) (by decide) (by decide)).trans m2679
                have m2707 := (hF1.fld hr_o0 skc_3 (k := 0) (by decide) (by decide)).trans m2680
                have m2708 := (hF1.fld hr_o0 skc_3 (k := 16) (by decide) (by decide)).trans m2681
                have m2709 := (hF1.fld hr_o0 skc_3 (k := 5) (by decide) (by decide)).trans m2682
                have m2710 := (hF1.fld hr_o0 skc_3 (k := 15) (by decide) (by decide)).trans m2683
                have m2711 := (hF1.fld hr_o0 skc_3 (k := 7) (by decide) (by decide)).trans m2684
                have m2712 := (hF1.fld hr_lw skc_7 (k := 2) (by decide) (by decide)).trans m2685
                have m2713 := (hF1.fld hr_lw skc_7 (k := 11) (by decide) (by decide)).trans m2686
                have m2714 := (hF1.fld hr_lw skc_7 (k := 7) (by decide) (by decide)).trans m2687
                have m2715 := (hF1.fld hr_lw skc_7 (k := 8) (by decide) (by decide)).trans m2688
                have m2716 := (hF1.fld hr_lw skc_7 (k := 9) (by decide) (by decide)).trans m2689
                have m2717 := (hF1.fld hr_lw skc_7 (k := 10) (by decide) (by decide)).trans m2690
                have m2718 := (hF1.fld hr_o0 skc_3 (k := 14) (by decide) (by decide)).trans m2691
                have hF := hF.more hF1 (by decide)
                have hF2 := hF2.more hF1 (by decide)
                try dsimp only at hw2698
                obtain ⟨h2720, hf2721⟩ := hw2698
                refine lv_istore (lv' := [(6, .int r2697), (5, .int r2670), (4, .int (nI i2101)), (3, .int z2102), (0, .ref o0), (1, .int p0), (2, .ref p1)]) hx hb dX0_giveFarms_101 hl (by decide) rfl (fun ls hl => ?_)
                refine lv_iload hx hb dX0_giveFarms_103 (lv_at hl 1 rfl) ?_
                refine lv_iconst (v := (-1)) hx hb dX0_giveFarms_105 (by decide) ?_
                refine lv_icmp_eq (tgt := 155) hx hb dX0_giveFarms_106 (by decide) (fun c2722 => ?_) (fun c2722 => ?_)
                · have t2723 : r2670.toInt = (-1) := ti_eq c2722 rfl (by decide)
                  refine lv_aload_n hx hb dX0_giveFarms_155 rfl (lv_at hl 4 rfl) ?_
                  refine lv_dup hx hb dX0_giveFarms_156 rfl ?_
                  refine tw_getM (v := .int hl) hx hb hts bF2_X0 hown hK hT hr_o0 shc_3 rfl 15 (by decide) (ht_at2 hts 1 rfl) (fun _ h9 => h9) m2710 dX0_giveFarms_157 ?_
                  refine lv_iload_n hx hb dX0_giveFarms_160 rfl (lv_at hl 3 rfl) ?_
                  refine lv_iadd hx hb dX0_giveFarms_161 ?_
                  refine lv_topi (fun x2724 ex2724 => ?_)
                  have t2725 : x2724.toInt = hl.toInt + z2102.toInt := ti_add ex2724 rfl rfl (by omega) (by omega)
                  refine tw_put (v := .int x2724) (ty := .int) hx hb hts bF2_X0 tyX0 tyX0_ok nmX0 hown hK hT hG hS hr_o0 shc_3 rfl 15 (by decide) (ht_at2 hts 1 rfl) (fun _ h9 => h9) rfl (by decide +kernel) rfl rfl (gl_at rfl (gi_all _)) dX0_giveFarms_162 (fun H locs hT oq m2726 oj hS => ?_)
                  have hF := hF.put hr_o0 skc_3 oq oj (by decide)
                  have hF2 := hF2.put hr_o0 skc_3 oq oj (by decide)
                  have m2728 := m2700.kept (oq _ (gne hr_hd9 hr_o0 (by decide)))
                  refine lv_iload_n hx hb dX0_giveFarms_165 rfl (lv_at hl 3 rfl) ?_
                  exact W.iret (v := z2102) hx hb hr (fun t ht hW => ⟨⟨z2102, (x2724, vh), rfl, (by exact ⟨(by have q8 := ti_all z2102; omega), (by have r9 := (show z2102.toInt = z2102.toInt from rfl); exact Or.inr ⟨by omega, fun h8 => by have := h8.2.1; have n9 := h8.2.2; rcases hf2693 with ⟨h7, h6⟩ | ⟨h7, h6, h5⟩; (exact (hpm2664.no (by omega) h6) n9); omega, rfl⟩), (by have := (show x2724.toInt = x2724.toInt from rfl); have := (show z2102.toInt = z2102.toInt from rfl); have := hct2669; exact ⟨by omega, by omega⟩)⟩), by (try dsimp only); rw [ht]; exact ⟨hT, hF, m2726, m2728, (fun _ => hF2)⟩⟩, hS.F ht⟩) hS.2.2 dX0_giveFarms_166
                · have t2747 : r2670.toInt ≠ (-1) := ti_ne c2722 rfl (by decide)
                  refine lv_iload hx hb dX0_giveFarms_109 (lv_at hl 0 rfl) ?_
                  refine lv_iconst (v := (-1)) hx hb dX0_giveFarms_111 (by decide) ?_
                  refine lv_icmp_ne (tgt := 118) hx hb dX0_giveFarms_112 (by decide) (fun c2748 => ?_) (fun c2748 => ?_)
                  · have t2749 : r2697.toInt ≠ (-1) := ti_ne c2748 rfl (by decide)
                    refine lv_aload_n hx hb dX0_giveFarms_118 rfl (lv_at hl 4 rfl) ?_
                    refine tw_getM (v := .ref mk9) hx hb hts bF2_X0 hown hK hT hr_o0 shc_3 rfl 6 (by decide) (ht_at2 hts 3 rfl) (fun _ h9 => h9) m2705 dX0_giveFarms_119 ?_
                    refine lv_iload hx hb dX0_giveFarms_122 (lv_at hl 1 rfl) ?_
                    refine lv_iconst (v := (-1)) hx hb dX0_giveFarms_124 (by decide) ?_
                    refine tw_iast (i := r2670) (x := (-1)) hx hb hK hT hG hS hr_mk9 shc_57 rfl (vin_t (a := r2670.toInt) rfl (by omega) (by omega)) (gi_all _) dX0_giveFarms_125 (fun H locs hT oq m2750 oi hS => ?_)
                    have hF := hF.ast hr_mk9 skc_57 oq (by decide)
                    have hF2 := hF2.ast hr_mk9 skc_57 oq (by decide)
                    have m2751 := m2699.put m2750 oi
                    have m2752 := m2700.kept (oq _ (gne hr_hd9 hr_mk9 (by decide)))
                    have m2753 := m2701.kept (oq _ (gne hr_kn hr_mk9 (by decide)))
                    have m2754 := m2702.kept (oq _ (gne hr_sf hr_mk9 (by decide)))
                    have m2755 := m2703.kept (oq _ (gne hr_sto hr_mk9 (by decide)))
                    have m2756 := m2704.kept (oq _ (gne hr_stp9 hr_mk9 (by decide)))
                    have m2757 := (el_kept (oq _ (gne hr_o0 hr_mk9 (by decide)))).trans m2705
                    have m2758 := (el_kept (oq _ (gne hr_o0 hr_mk9 (by decide)))).trans m2706
                    have m2759 := (el_kept (oq _ (gne hr_o0 hr_mk9 (by decide)))).trans m2707
                    have m2760 := (el_kept (oq _ (gne hr_o0 hr_mk9 (by decide)))).trans m2708
                    have m2761 := (el_kept (oq _ (gne hr_o0 hr_mk9 (by decide)))).trans m2709
                    have m2762 := (el_kept (oq _ (gne hr_o0 hr_mk9 (by decide)))).trans m2710
                    have m2763 := (el_kept (oq _ (gne hr_o0 hr_mk9 (by decide)))).trans m2711
                    have m2764 := (el_kept (oq _ (gne hr_lw hr_mk9 (by decide)))).trans m2712
                    have m2765 := (el_kept (oq _ (gne hr_lw hr_mk9 (by decide)))).trans m2713
                    have m2766 := (el_kept (oq _ (gne hr_lw hr_mk9 (by decide)))).trans m2714
                    have m2767 := (el_kept (oq _ (gne hr_lw hr_mk9 (by decide)))).trans m2715
                    have m2768 := (el_kept (oq _ (gne hr_lw hr_mk9 (by decide)))).trans m2716
                    have m2769 := (el_kept (oq _ (gne hr_lw hr_mk9 (by decide)))).trans m2717
                    have m2770 := (el_kept (oq _ (gne hr_o0 hr_mk9 (by decide)))).trans m2718
                    refine lv_aload_n hx hb dX0_giveFarms_126 rfl (lv_at hl 4 rfl) ?_
                    refine tw_getM (v := .ref sA) hx hb hts bF2_X0 hown hK hT hr_o0 shc_3 rfl 0 (by decide) (ht_at2 hts 4 rfl) (fun _ h9 => h9) m2759 dX0_giveFarms_127 ?_
                    refine lv_iload hx hb dX0_giveFarms_130 (lv_at hl 1 rfl) ?_
                    refine tw_aald (i := r2670) hx hb hK hT hr_sA shc_51 rfl (vin_t (a := r2670.toInt) rfl (by omega) (by omega)) dX0_giveFarms_132 (fun v9 m2772 h9 => ?_)
                    obtain ⟨b2773, rfl, hg2774⟩ := (h9.1 (by have q9 := tn_of (show r2670.toInt = r2670.toInt from rfl) (by omega); omega))
                    refine lv_iload hx hb dX0_giveFarms_133 (lv_at hl 0 rfl) ?_
                    refine tw_putN (v := .int r2697) (ty := .int) hx hb hts bF2_X7 tyX7 tyX7_ok nmX7 hown hK hT hG hS hg2774 shc_10 rfl 7 (by decide) (hE.nw 61 rfl) (fun _ h9 => h9) rfl (by decide +kernel) rfl rfl (gl_at rfl (gi_of (show r2697.toInt = r2697.toInt from rfl) (by omega) (by omega))) dX0_giveFarms_135 (fun H locs hT oq m2775 oj hS => ?_)
                    have hF := hF.put hg2774 skc_10 oq oj (by decide)
                    have m2776 := m2751.kept (oq _ (gne hr_mk9 hg2774 (by decide)))
                    have m2777 := m2752.kept (oq _ (gne hr_hd9 hg2774 (by decide)))
                    have m2778 := m2753.kept (oq _ (gne hr_kn hg2774 (by decide)))
                    have m2779 := m2754.kept (oq _ (gne hr_sf hg2774 (by decide)))
                    have m2780 := m2755.kept (oq _ (gne hr_sto hg2774 (by decide)))
                    have m2781 := m2756.kept (oq _ (gne hr_stp9 hg2774 (by decide)))
                    have m2782 := (el_kept (oq _ (gne hr_o0 hg2774 (by decide)))).trans m2757
                    have m2783 := (el_kept (oq _ (gne hr_o0 hg2774 (by decide)))).trans m2758
                    have m2784 := (el_kept (oq _ (gne hr_o0 hg2774 (by decide)))).trans m2759
                    have m2785 := (el_kept (oq _ (gne hr_o0 hg2774 (by decide)))).trans m2760
                    have m2786 := (el_kept (oq _ (gne hr_o0 hg2774 (by decide)))).trans m2761
                    have m2787 := (el_kept (oq _ (gne hr_o0 hg2774 (by decide)))).trans m2762
                    have m2788 := (el_kept (oq _ (gne hr_o0 hg2774 (by decide)))).trans m2763
                    have m2789 := (el_kept (oq _ (gne hr_lw hg2774 (by decide)))).trans m2764
                    have m2790 := (el_kept (oq _ (gne hr_lw hg2774 (by decide)))).trans m2765
                    have m2791 := (el_kept (oq _ (gne hr_lw hg2774 (by decide)))).trans m2766
                    have m2792 := (el_kept (oq _ (gne hr_lw hg2774 (by decide)))).trans m2767
                    have m2793 := (el_kept (oq _ (gne hr_lw hg2774 (by decide)))).trans m2768
                    have m2794 := (el_kept (oq _ (gne hr_lw hg2774 (by decide)))).trans m2769
                    have m2795 := (el_kept (oq _ (gne hr_o0 hg2774 (by decide)))).trans m2770
                    refine lv_aload_n hx hb dX0_giveFarms_138 rfl (lv_at hl 4 rfl) ?_
                    refine tw_getM (v := .ref hd9) hx hb hts bF2_X0 hown hK hT hr_o0 shc_3 rfl 3 (by decide) (ht_at2 hts 11 rfl) (fun _ h9 => h9) m2783 dX0_giveFarms_139 ?_
                    refine lv_iload hx hb dX0_giveFarms_142 (lv_at hl 0 rfl) ?_
                    refine lv_iconst (v := 1) hx hb dX0_giveFarms_144 (by decide) ?_
                    refine tw_zast (i := r2697) (x := 1) hx hb hK hT hG hS hr_hd9 shc_54 rfl (vin_t (a := r2697.toInt) rfl (by omega) (by omega)) (gi_z (rg_t (a := 1) (by decide) (by first | decide | omega) (by first | decide | omega)) (by decide) (by decide)) dX0_giveFarms_145 (fun H locs hT oq m2799 oi hS => ?_)
                    have hF := hF.ast hr_hd9 skc_54 oq (by decide)
                    have m2800 := m2776.kept (oq _ (gne hr_mk9 hr_hd9 (by decide)))
                    have m2801 := m2777.put (show el H hd9 _ = some (.int 1) from m2799) oi
                    have m2802 := m2778.kept (oq _ (gne hr_kn hr_hd9 (by decide)))
                    have m2803 := m2779.kept (oq _ (gne hr_sf hr_hd9 (by decide)))
                    have m2804 := m2780.kept (oq _ (gne hr_sto hr_hd9 (by decide)))
                    have m2805 := m2781.kept (oq _ (gne hr_stp9 hr_hd9 (by decide)))
                    have m2806 := (el_kept (oq _ (gne hr_o0 hr_hd9 (by decide)))).trans m2782
                    have m2807 := (el_kept (oq _ (gne hr_o0 hr_hd9 (by decide)))).trans m2783
                    have m2808 := (el_kept (oq _ (gne hr_o0 hr_hd9 (by decide)))).trans m2784
                    have m2809 := (el_kept (oq _ (gne hr_o0 hr_hd9 (by decide)))).trans m2785
                    have m2810 := (el_kept (oq _ (gne hr_o0 hr_hd9 (by decide)))).trans m2786
                    have m2811 := (el_kept (oq _ (gne hr_o0 hr_hd9 (by decide)))).trans m2787
                    have m2812 := (el_kept (oq _ (gne hr_o0 hr_hd9 (by decide)))).trans m2788
                    have m2813 := (el_kept (oq _ (gne hr_lw hr_hd9 (by decide)))).trans m2789
                    have m2814 := (el_kept (oq _ (gne hr_lw hr_hd9 (by decide)))).trans m2790
                    have m2815 := (el_kept (oq _ (gne hr_lw hr_hd9 (by decide)))).trans m2791
                    have m2816 := (el_kept (oq _ (gne hr_lw hr_hd9 (by decide)))).trans m2792
                    have m2817 := (el_kept (oq _ (gne hr_lw hr_hd9 (by decide)))).trans m2793
                    have m2818 := (el_kept (oq _ (gne hr_lw hr_hd9 (by decide)))).trans m2794
                    have m2819 := (el_kept (oq _ (gne hr_o0 hr_hd9 (by decide)))).trans m2795
                    obtain ⟨x2824, ex2824⟩ : ∃ y : Int32, y = z2102 + 1 := ⟨_, rfl⟩
                    have t2825 : x2824.toInt = z2102.toInt + 1 := ti_add ex2824 rfl (by decide) (by omega) (by omega)
                    refine lv_iinc (v := x2824) (lv' := [(3, .int x2824), (6, .int r2697), (5, .int r2670), (4, .int (nI i2101)), (0, .ref o0), (1, .int p0), (2, .ref p1)]) hx hb dX0_giveFarms_146 hl (k := 3) rfl (by first | (rw [ex2824]; done) | (rw [ex2824]; rfl)) (by decide) rfl (fun ls hl => ?_)
                    refine lv_iinc (v := nI (i2101 + 1)) (lv' := [(4, .int (nI (i2101 + 1))), (3, .int x2824), (6, .int r2697), (5, .int r2670), (0, .ref o0), (1, .int p0), (2, .ref p1)]) hx hb dX0_giveFarms_149 hl (k := 3) rfl (nI_add i2101 1) (by decide) rfl (fun ls hl => ?_)
                    refine lv_goto (tgt := 81) hx hb dX0_giveFarms_152 (by decide) ?_
                    exact ih2551 (i2101 + 1) (by omega) (by omega) x2824 (cu V2104 r2670.toNatClampNeg (-1 : Int32)) (cu vh r2697.toNatClampNeg (1 : Int32)) ⟨(by have q9 := (show x2824.toInt = x2824.toInt from rfl); (try have q8 := ti_all x2824); omega), ⟨(by have := (show x2824.toInt = x2824.toInt from rfl); rw [zct_1 (by exact hnh _ (by have := tn_of (show r2697.toInt = r2697.toInt from rfl) (by omega); omega)) (by decide) 30 (by have := tn_of (show r2697.toInt = r2697.toInt from rfl) (by omega); omega)]; have := hct2669; omega), Or.inr ⟨by omega, by have := (show x2824.toInt = x2824.toInt from rfl); omega, by omega, hpm2664.yes (by omega) ((hf2693.resolve_left (fun h8 => by have := h8.1; omega)).2.2)⟩⟩, (by have := (show x2824.toInt = x2824.toInt from rfl); omega)⟩ _ _ hT hF (fun h9 => absurd h9 (by omega)) hS m2800 m2801 m2802 m2803 m2804 m2805 m2806 m2807 m2808 m2809 m2810 m2811 m2812 m2813 m2814 m2815 m2816 m2817 m2818 m2819 ls (lv_sub hl [0, 1, 4, 5, 6] rfl)
                  · have t2826 : r2697.toInt = (-1) := ti_eq c2748 rfl (by decide)
                    refine lv_goto (tgt := 155) hx hb dX0_giveFarms_115 (by decide) ?_
                    refine lv_aload_n hx hb dX0_giveFarms_155 rfl (lv_at hl 4 rfl) ?_
                    refine lv_dup hx hb dX0_giveFarms_156 rfl ?_
                    refine tw_getM (v := .int hl) hx hb hts bF2_X0 hown hK hT hr_o0 shc_3 rfl 15 (by decide) (ht_at2 hts 1 rfl) (fun _ h9 => h9) m2710 dX0_giveFarms_157 ?_
                    refine lv_iload_n hx hb dX0_giveFarms_160 rfl (lv_at hl 3 rfl) ?_
                    refine lv_iadd hx hb dX0_giveFarms_161 ?_
                    refine lv_topi (fun x2827 ex2827 => ?_)
                    have t2828 : x2827.toInt = hl.toInt + z2102.toInt := ti_add ex2827 rfl rfl (by omega) (by omega)
                    refine tw_put (v := .int x2827) (ty := .int) hx hb hts bF2_X0 tyX0 tyX0_ok nmX0 hown hK hT hG hS hr_o0 shc_3 rfl 15 (by decide) (ht_at2 hts 1 rfl) (fun _ h9 => h9) rfl (by decide +kernel) rfl rfl (gl_at rfl (gi_all _)) dX0_giveFarms_162 (fun H locs hT oq m2829 oj hS => ?_)
                    have hF := hF.put hr_o0 skc_3 oq oj (by decide)
                    have hF2 := hF2.put hr_o0 skc_3 oq oj (by decide)
                    have m2831 := m2700.kept (oq _ (gne hr_hd9 hr_o0 (by decide)))
                    refine lv_iload_n hx hb dX0_giveFarms_165 rfl (lv_at hl 3 rfl) ?_
                    exact W.iret (v := z2102) hx hb hr (fun t ht hW => ⟨⟨z2102, (x2827, vh), rfl, (by exact ⟨(by have q8 := ti_all z2102; omega), (by have r9 := (show z2102.toInt = z2102.toInt from rfl); exact Or.inr ⟨by omega, fun h8 => by have := h8.2.1; have n9 := h8.2.2; rcases hf2693 with ⟨h7, h6⟩ | ⟨h7, h6, h5⟩; (exact (hpm2664.no (by omega) h6) n9); omega, rfl⟩), (by have := (show x2827.toInt = x2827.toInt from rfl); have := (show z2102.toInt = z2102.toInt from rfl); have := hct2669; exact ⟨by omega, by omega⟩)⟩), by (try dsimp only); rw [ht]; exact ⟨hT, hF, m2829, m2831, (fun _ => hF2)⟩⟩, hS.F ht⟩) hS.2.2 dX0_giveFarms_166
              · refine lv_aload_n hx hb dX0_giveFarms_87 rfl (lv_at hl 2 rfl) ?_
                have hFc := gA_free hG hA hS
                refine va_calli (va_runV (As := []) (rest := []) ⟨hx, hb, hml, hown, hts⟩ (c_firstByMark l dC dI kA adK adV G H nC nS o0 hT hr_o0 (by omega) (by omega)) (cwV 0 hts (goodIn_app (goodIn_r _ [6, 7, 8, 9] rfl (by decide +kernel)) (goodIn_ca (goodIn_r _ [3, 1, 4, 5] rfl (by decide +kernel)) (bs2_in _ _))) rfl rfl rfl (by decide +kernel) ⟨(Nat.le_of_ble_eq_true rfl), (Nat.le_of_ble_eq_true rfl)⟩) ⟨fun a U g mk q => by obtain ⟨q0, q1, qK, qE⟩ := q; exact ⟨q0, q1, va_K.moved (u := U) (U := U.calling g mk a) (Vm.Alike.refl U.vm) qK, EVC.blind g mk a qE⟩, gH_rc hK hT hr_o0 shc_3 rfl, fun U hU hW => ⟨rfl, hU, va_K.moved hW.alike hK, hE.call hS hFc hU hW⟩⟩ rfl rfl hl.1 rfl (lv_room (Nat.le_of_ble_eq_true rfl)) dX0_giveFarms_88 ⟨(Nat.le_of_ble_eq_true rfl), (Nat.le_of_ble_eq_true rfl)⟩) hS (fun q _ h => hFc q h) hFc (fun r2850 u t H locs ht hvm hw2851 hB _ _ hS => ?_)
                obtain ⟨hT, hF1⟩ := hB
                rw [ht] at hT hF1
                have m2852 := m2105.kept (hF1.arr hr_mk9 skc_57 (by decide))
                have m2853 := m2107.kept (hF1.arr hr_hd9 skc_54 (by decide))
                have m2854 := m2108.kept (hF1.arr hr_kn skc_42 (by decide))
                have m2855 := m2109.kept (hF1.arr hr_sf skc_47 (by decide))
                have m2856 := m2110.kept (hF1.arr hr_sto skc_48 (by decide))
                have m2857 := m2111.kept (hF1.arr hr_stp9 skc_49 (by decide))
                have m2858 := (hF1.fld hr_o0 skc_3 (k := 6) (by decide) (by decide)).trans m2112
                have m2859 := (hF1.fld hr_o0 skc_3 (k := 3) (by decide) (by decide)).trans m2113
                have m2860 := (hF1.fld hr_o0 skc_3 (k := 0) (by decide) (by decide)).trans m2114
                have m2861 := (hF1.fld hr_o0 skc_3 (k := 16) (by decide) (by decide)).trans m2115
                have m2862 := (hF1.fld hr_o0 skc_3 (k := 5) (by decide) (by decide)).trans m2116
                have m2863 := (hF1.fld hr_o0 skc_3 (k := 15) (by decide) (by decide)).trans m2117
                have m2864 := (hF1.fld hr_o0 skc_3 (k := 7) (by decide) (by decide)).trans m2118
                have m2865 := (hF1.fld hr_lw skc_7 (k := 2) (by decide) (by decide)).trans m2119
                have m2866 := (hF1.fld hr_lw skc_7 (k := 11) (by decide) (by decide)).trans m2120
                have m2867 := (hF1.fld hr_lw skc_7 (k := 7) (by decide) (by decide)).trans m2121
                have m2868 := (hF1.fld hr_lw skc_7 (k := 8) (by decide) (by decide)).trans m2122
                have m2869 := (hF1.fld hr_lw skc_7 (k := 9) (by decide) (by decide)).trans m2123
                have m2870 := (hF1.fld hr_lw skc_7 (k := 10) (by decide) (by decide)).trans m2124
                have m2871 := (hF1.fld hr_o0 skc_3 (k := 14) (by decide) (by decide)).trans m2125
                have hF := hF.more hF1 (by decide)
                try dsimp only at hw2851
                obtain ⟨h2872, hf2873⟩ := hw2851
                refine lv_istore (lv' := [(5, .int r2850), (4, .int (nI i2101)), (3, .int z2102), (0, .ref o0), (1, .int p0), (2, .ref p1)]) hx hb dX0_giveFarms_91 hl (by decide) rfl (fun ls hl => ?_)
                refine lv_aload_n hx hb dX0_giveFarms_93 rfl (lv_at hl 3 rfl) ?_
                refine lv_aload_n hx hb dX0_giveFarms_94 rfl (lv_at hl 5 rfl) ?_
                refine tw_getN hx hb hts bF2_X3 hown hK hT hr_p1 shc_6 rfl 1 (by decide) (hE.nw 73 rfl) (fun _ h9 => h9) dX0_giveFarms_95 (fun v9 m2874 h9 => ?_)
                obtain ⟨b2875, rfl, hg2876⟩ := h9 _ rfl
                have hFc := gA_free hG hA hS
                refine va_calli (va_runV (As := [.ref b2875]) (rest := []) ⟨hx, hb, hml, hown, hts⟩ (c_bestFreeFarmH l dC dI kA adK adV G H nC nS o0 b2875 hd9 V2106 hT hg2876 hr_o0 m2859 hr_hd9 m2853 (by omega) (by omega)) (cwV 1 hts (goodIn_app (goodIn_r _ [22, 23, 24, 9] rfl (by decide +kernel)) (goodIn_ca (goodIn_r _ [10, 11, 12, 13, 14, 15, 16, 17, 18, 19, 20, 21, 9] rfl (by decide +kernel)) (bs2_in _ _))) rfl rfl rfl (by decide +kernel) ⟨(Nat.le_of_ble_eq_true rfl), (Nat.le_of_ble_eq_true rfl)⟩) ⟨fun a U g mk q => by obtain ⟨q0, q1, qK, qE⟩ := q; exact ⟨q0, q1, va_K.moved (u := U) (U := U.calling g mk a) (Vm.Alike.refl U.vm) qK, EVC.blind g mk a qE⟩, gH_rc hK hT hr_o0 shc_3 rfl, fun U hU hW => ⟨rfl, hU, va_K.moved hW.alike hK, hE.call hS hFc hU hW⟩⟩ rfl rfl hl.1 rfl (lv_room (Nat.le_of_ble_eq_true rfl)) dX0_giveFarms_98 ⟨(Nat.le_of_ble_eq_true rfl), (Nat.le_of_ble_eq_true rfl)⟩) hS (fun q _ h => hFc q h) hFc (fun r2877 u t H locs ht hvm hw2878 hB _ _ hS => ?_)
                obtain ⟨hT, hF1⟩ := hB
                rw [ht] at hT hF1
                have m2879 := m2852.kept (hF1.arr hr_mk9 skc_57 (by decide))
                have m2880 := m2853.kept (hF1.arr hr_hd9 skc_54 (by decide))
                have m2881 := m2854.kept (hF1.arr hr_kn skc_42 (by decide))
                have m2882 := m2855.kept (hF1.arr hr_sf skc_47 (by decide))
                have m2883 := m2856.kept (hF1.arr hr_sto skc_48 (by decide))
                have m2884 := m2857.kept (hF1.arr hr_stp9 skc_49 (by decide))
                have m2885 := (hF1.fld hr_o0 skc_3 (k := 6) (by decide) (by decide)).trans m2858
                have m2886 := (hF1.fld hr_o0 skc_3 (k := 3) (by decide) (by decide)).trans m2859
                have m2887 := (hF1.fld hr_o0 skc_3 (k := 0) (by decide) (by decide)).trans m2860
                have m2888 := (hF1.fld hr_o0 skc_3 (k := 16) (by decide) (by decide)).trans m2861
                have m2889 := (hF1.fld hr_o0 skc_3 (k := 5) (by decide) (by decide)).trans m2862
                have m2890 := (hF1.fld hr_o0 skc_3 (k := 15) (by decide) (by decide)).trans m2863
                have m2891 := (hF1.fld hr_o0 skc_3 (k := 7) (by decide) (by decide)).trans m2864
                have m2892 := (hF1.fld hr_lw skc_7 (k := 2) (by decide) (by decide)).trans m2865
                have m2893 := (hF1.fld hr_lw skc_7 (k := 11) (by decide) (by decide)).trans m2866
                have m2894 := (hF1.fld hr_lw skc_7 (k := 7) (by decide) (by decide)).trans m2867
                have m2895 := (hF1.fld hr_lw skc_7 (k := 8) (by decide) (by decide)).trans m2868
                have m2896 := (hF1.fld hr_lw skc_7 (k := 9) (by decide) (by decide)).trans m2869
                have m2897 := (hF1.fld hr_lw skc_7 (k := 10) (by decide) (by decide)).trans m2870
                have m2898 := (hF1.fld hr_o0 skc_3 (k := 14) (by decide) (by decide)).trans m2871
                have hF := hF.more hF1 (by decide)
                try dsimp only at hw2878
                obtain ⟨h2900, hf2901⟩ := hw2878
                refine lv_istore (lv' := [(6, .int r2877), (5, .int r2850), (4, .int (nI i2101)), (3, .int z2102), (0, .ref o0), (1, .int p0), (2, .ref p1)]) hx hb dX0_giveFarms_101 hl (by decide) rfl (fun ls hl => ?_)
                refine lv_iload hx hb dX0_giveFarms_103 (lv_at hl 1 rfl) ?_
                refine lv_iconst (v := (-1)) hx hb dX0_giveFarms_105 (by decide) ?_
                refine lv_icmp_eq (tgt := 155) hx hb dX0_giveFarms_106 (by decide) (fun c2902 => ?_) (fun c2902 => ?_)
                · have t2903 : r2850.toInt = (-1) := ti_eq c2902 rfl (by decide)
                  refine lv_aload_n hx hb dX0_giveFarms_155 rfl (lv_at hl 4 rfl) ?_
                  refine lv_dup hx hb dX0_giveFarms_156 rfl ?_
                  refine tw_getM (v := .int hl) hx hb hts bF2_X0 hown hK hT hr_o0 shc_3 rfl 15 (by decide) (ht_at2 hts 1 rfl) (fun _ h9 => h9) m2890 dX0_giveFarms_157 ?_
                  refine lv_iload_n hx hb dX0_giveFarms_160 rfl (lv_at hl 3 rfl) ?_
                  refine lv_iadd hx hb dX0_giveFarms_161 ?_
                  refine lv_topi (fun x2904 ex2904 => ?_)
                  have t2905 : x2904.toInt = hl.toInt + z2102.toInt := ti_add ex2904 rfl rfl (by omega) (by omega)
                  refine tw_put (v := .int x2904) (ty := .int) hx hb hts bF2_X0 tyX0 tyX0_ok nmX0 hown hK hT hG hS hr_o0 shc_3 rfl 15 (by decide) (ht_at2 hts 1 rfl) (fun _ h9 => h9) rfl (by decide +kernel) rfl rfl (gl_at rfl (gi_all _)) dX0_giveFarms_162 (fun H locs hT oq m2906 oj hS => ?_)
                  have hF := hF.put hr_o0 skc_3 oq oj (by decide)
                  have m2908 := m2880.kept (oq _ (gne hr_hd9 hr_o0 (by decide)))
                  refine lv_iload_n hx hb dX0_giveFarms_165 rfl (lv_at hl 3 rfl) ?_
                  exact W.iret (v := z2102) hx hb hr (fun t ht hW => ⟨⟨z2102, (x2904, V2106), rfl, (by exact ⟨(by have q8 := ti_all z2102; omega), (by have r9 := (show z2102.toInt = z2102.toInt from rfl); exact Or.inl ⟨by omega, ⟨by omega, by omega⟩, hfm2667, hno2668⟩), (by have := (show x2904.toInt = x2904.toInt from rfl); have := (show z2102.toInt = z2102.toInt from rfl); have := hct2669; exact ⟨by omega, by omega⟩)⟩), by (try dsimp only); rw [ht]; exact ⟨hT, hF, m2906, m2908, (fun h9 => by exfalso; have h8 := congrArg Int32.toInt h9; have z8 : (0 : Int32).toInt = 0 := (by decide); have := (show x2904.toInt = x2904.toInt from rfl); omega)⟩⟩, hS.F ht⟩) hS.2.2 dX0_giveFarms_166
                · have t2927 : r2850.toInt ≠ (-1) := ti_ne c2902 rfl (by decide)
                  refine lv_iload hx hb dX0_giveFarms_109 (lv_at hl 0 rfl) ?_
                  refine lv_iconst (v := (-1)) hx hb dX0_giveFarms_111 (by decide) ?_
                  refine lv_icmp_ne (tgt := 118) hx hb dX0_giveFarms_112 (by decide) (fun c2928 => ?_) (fun c2928 => ?_)
                  · have t2929 : r2877.toInt ≠ (-1) := ti_ne c2928 rfl (by decide)
                    refine lv_aload_n hx hb dX0_giveFarms_118 rfl (lv_at hl 4 rfl) ?_
                    refine tw_getM (v := .ref mk9) hx hb hts bF2_X0 hown hK hT hr_o0 shc_3 rfl 6 (by decide) (ht_at2 hts 3 rfl) (fun _ h9 => h9) m2885 dX0_giveFarms_119 ?_
                    refine lv_iload hx hb dX0_giveFarms_122 (lv_at hl 1 rfl) ?_
                    refine lv_iconst (v := (-1)) hx hb dX0_giveFarms_124 (by decide) ?_
                    refine tw_iast (i := r2850) (x := (-1)) hx hb hK hT hG hS hr_mk9 shc_57 rfl (vin_t (a := r2850.toInt) rfl (by omega) (by omega)) (gi_all _) dX0_giveFarms_125 (fun H locs hT oq m2930 oi hS => ?_)
                    have hF := hF.ast hr_mk9 skc_57 oq (by decide)
                    have m2931 := m2879.put m2930 oi
                    have m2932 := m2880.kept (oq _ (gne hr_hd9 hr_mk9 (by decide)))
                    have m2933 := m2881.kept (oq _ (gne hr_kn hr_mk9 (by decide)))
                    have m2934 := m2882.kept (oq _ (gne hr_sf hr_mk9 (by decide)))
                    have m2935 := m2883.kept (oq _ (gne hr_sto hr_mk9 (by decide)))
                    have m2936 := m2884.kept (oq _ (gne hr_stp9 hr_mk9 (by decide)))
                    have m2937 := (el_kept (oq _ (gne hr_o0 hr_mk9 (by decide)))).trans m2885
                    have m2938 := (el_kept (oq _ (gne hr_o0 hr_mk9 (by decide)))).trans m2886
                    have m2939 := (el_kept (oq _ (gne hr_o0 hr_mk9 (by decide)))).trans m2887
                    have m2940 := (el_kept (oq _ (gne hr_o0 hr_mk9 (by decide)))).trans m2888
                    have m2941 := (el_kept (oq _ (gne hr_o0 hr_mk9 (by decide)))).trans m2889
                    have m2942 := (el_kept (oq _ (gne hr_o0 hr_mk9 (by decide)))).trans m2890
                    have m2943 := (el_kept (oq _ (gne hr_o0 hr_mk9 (by decide)))).trans m2891
                    have m2944 := (el_kept (oq _ (gne hr_lw hr_mk9 (by decide)))).trans m2892
                    have m2945 := (el_kept (oq _ (gne hr_lw hr_mk9 (by decide)))).trans m2893
                    have m2946 := (el_kept (oq _ (gne hr_lw hr_mk9 (by decide)))).trans m2894
                    have m2947 := (el_kept (oq _ (gne hr_lw hr_mk9 (by decide)))).trans m2895
                    have m2948 := (el_kept (oq _ (gne hr_lw hr_mk9 (by decide)))).trans m2896
                    have m2949 := (el_kept (oq _ (gne hr_lw hr_mk9 (by decide)))).trans m2897
                    have m2950 := (el_kept (oq _ (gne hr_o0 hr_mk9 (by decide)))).trans m2898
                    refine lv_aload_n hx hb dX0_giveFarms_126 rfl (lv_at hl 4 rfl) ?_
                    refine tw_getM (v := .ref sA) hx hb hts bF2_X0 hown hK hT hr_o0 shc_3 rfl 0 (by decide) (ht_at2 hts 4 rfl) (fun _ h9 => h9) m2939 dX0_giveFarms_127 ?_
                    refine lv_iload hx hb dX0_giveFarms_130 (lv_at hl 1 rfl) ?_
                    refine tw_aald (i := r2850) hx hb hK hT hr_sA shc_51 rfl (vin_t (a := r2850.toInt) rfl (by omega) (by omega)) dX0_giveFarms_132 (fun v9 m2952 h9 => ?_)
                    obtain ⟨b2953, rfl, hg2954⟩ := (h9.1 (by have q9 := tn_of (show r2850.toInt = r2850.toInt from rfl) (by omega); omega))
                    refine lv_iload hx hb dX0_giveFarms_133 (lv_at hl 0 rfl) ?_
                    refine tw_putN (v := .int r2877) (ty := .int) hx hb hts bF2_X7 tyX7 tyX7_ok nmX7 hown hK hT hG hS hg2954 shc_10 rfl 7 (by decide) (hE.nw 61 rfl) (fun _ h9 => h9) rfl (by decide +kernel) rfl rfl (gl_at rfl (gi_of (show r2877.toInt = r2877.toInt from rfl) (by omega) (by omega))) dX0_giveFarms_135 (fun H locs hT oq m2955 oj hS => ?_)
                    have hF := hF.put hg2954 skc_10 oq oj (by decide)
                    have m2956 := m2931.kept (oq _ (gne hr_mk9 hg2954 (by decide)))
                    have m2957 := m2932.kept (oq _ (gne hr_hd9 hg2954 (by decide)))
                    have m2958 := m2933.kept (oq _ (gne hr_kn hg2954 (by decide)))
                    have m2959 := m2934.kept (oq _ (gne hr_sf hg2954 (by decide)))
                    have m2960 := m2935.kept (oq _ (gne hr_sto hg2954 (by decide)))
                    have m2961 := m2936.kept (oq _ (gne hr_stp9 hg2954 (by decide)))
                    have m2962 := (el_kept (oq _ (gne hr_o0 hg2954 (by decide)))).trans m2937
                    have m2963 := (el_kept (oq _ (gne hr_o0 hg2954 (by decide)))).trans m2938
                    have m2964 := (el_kept (oq _ (gne hr_o0 hg2954 (by decide)))).trans m2939
                    have m2965 := (el_kept (oq _ (gne hr_o0 hg2954 (by decide)))).trans m2940
                    have m2966 := (el_kept (oq _ (gne hr_o0 hg2954 (by decide)))).trans m2941
                    have m2967 := (el_kept (oq _ (gne hr_o0 hg2954 (by decide)))).trans m2942
                    have m2968 := (el_kept (oq _ (gne hr_o0 hg2954 (by decide)))).trans m2943
                    have m2969 := (el_kept (oq _ (gne hr_lw hg2954 (by decide)))).trans m2944
                    have m2970 := (el_kept (oq _ (gne hr_lw hg2954 (by decide)))).trans m2945
                    have m2971 := (el_kept (oq _ (gne hr_lw hg2954 (by decide)))).trans m2946
                    have m2972 := (el_kept (oq _ (gne hr_lw hg2954 (by decide)))).trans m2947
                    have m2973 := (el_kept (oq _ (gne hr_lw hg2954 (by decide)))).trans m2948
                    have m2974 := (el_kept (oq _ (gne hr_lw hg2954 (by decide)))).trans m2949
                    have m2975 := (el_kept (oq _ (gne hr_o0 hg2954 (by decide)))).trans m2950
                    refine lv_aload_n hx hb dX0_giveFarms_138 rfl (lv_at hl 4 rfl) ?_
                    refine tw_getM (v := .ref hd9) hx hb hts bF2_X0 hown hK hT hr_o0 shc_3 rfl 3 (by decide) (ht_at2 hts 11 rfl) (fun _ h9 => h9) m2963 dX0_giveFarms_139 ?_
                    refine lv_iload hx hb dX0_giveFarms_142 (lv_at hl 0 rfl) ?_
                    refine lv_iconst (v := 1) hx hb dX0_giveFarms_144 (by decide) ?_
                    refine tw_zast (i := r2877) (x := 1) hx hb hK hT hG hS hr_hd9 shc_54 rfl (vin_t (a := r2877.toInt) rfl (by omega) (by omega)) (gi_z (rg_t (a := 1) (by decide) (by first | decide | omega) (by first | decide | omega)) (by decide) (by decide)) dX0_giveFarms_145 (fun H locs hT oq m2979 oi hS => ?_)
                    have hF := hF.ast hr_hd9 skc_54 oq (by decide)
                    have m2980 := m2956.kept (oq _ (gne hr_mk9 hr_hd9 (by decide)))
                    have m2981 := m2957.put (show el H hd9 _ = some (.int 1) from m2979) oi
                    have m2982 := m2958.kept (oq _ (gne hr_kn hr_hd9 (by decide)))
                    have m2983 := m2959.kept (oq _ (gne hr_sf hr_hd9 (by decide)))
                    have m2984 := m2960.kept (oq _ (gne hr_sto hr_hd9 (by decide)))
                    have m2985 := m2961.kept (oq _ (gne hr_stp9 hr_hd9 (by decide)))
                    have m2986 := (el_kept (oq _ (gne hr_o0 hr_hd9 (by decide)))).trans m2962
                    have m2987 := (el_kept (oq _ (gne hr_o0 hr_hd9 (by decide)))).trans m2963
                    have m2988 := (el_kept (oq _ (gne hr_o0 hr_hd9 (by decide)))).trans m2964
                    have m2989 := (el_kept (oq _ (gne hr_o0 hr_hd9 (by decide)))).trans m2965
                    have m2990 := (el_kept (oq _ (gne hr_o0 hr_hd9 (by decide)))).trans m2966
                    have m2991 := (el_kept (oq _ (gne hr_o0 hr_hd9 (by decide)))).trans m2967
                    have m2992 := (el_kept (oq _ (gne hr_o0 hr_hd9 (by decide)))).trans m2968
                    have m2993 := (el_kept (oq _ (gne hr_lw hr_hd9 (by decide)))).trans m2969
                    have m2994 := (el_kept (oq _ (gne hr_lw hr_hd9 (by decide)))).trans m2970
                    have m2995 := (el_kept (oq _ (gne hr_lw hr_hd9 (by decide)))).trans m2971
                    have m2996 := (el_kept (oq _ (gne hr_lw hr_hd9 (by decide)))).trans m2972
                    have m2997 := (el_kept (oq _ (gne hr_lw hr_hd9 (by decide)))).trans m2973
                    have m2998 := (el_kept (oq _ (gne hr_lw hr_hd9 (by decide)))).trans m2974
                    have m2999 := (el_kept (oq _ (gne hr_o0 hr_hd9 (by decide)))).trans m2975
                    obtain ⟨x3004, ex3004⟩ : ∃ y : Int32, y = z2102 + 1 := ⟨_, rfl⟩
                    have t3005 : x3004.toInt = z2102.toInt + 1 := ti_add ex3004 rfl (by decide) (by omega) (by omega)
                    refine lv_iinc (v := x3004) (lv' := [(3, .int x3004), (6, .int r2877), (5, .int r2850), (4, .int (nI i2101)), (0, .ref o0), (1, .int p0), (2, .ref p1)]) hx hb dX0_giveFarms_146 hl (k := 3) rfl (by first | (rw [ex3004]; done) | (rw [ex3004]; rfl)) (by decide) rfl (fun ls hl => ?_)
                    refine lv_iinc (v := nI (i2101 + 1)) (lv' := [(4, .int (nI (i2101 + 1))), (3, .int x3004), (6, .int r2877), (5, .int r2850), (0, .ref o0), (1, .int p0), (2, .ref p1)]) hx hb dX0_giveFarms_149 hl (k := 3) rfl (nI_add i2101 1) (by decide) rfl (fun ls hl => ?_)
                    refine lv_goto (tgt := 81) hx hb dX0_giveFarms_152 (by decide) ?_
                    exact ih2551 (i2101 + 1) (by omega) (by omega) x3004 (cu V2104 r2850.toNatClampNeg (-1 : Int32)) (cu V2106 r2877.toNatClampNeg (1 : Int32)) ⟨(by have q9 := (show x3004.toInt = x3004.toInt from rfl); (try have q8 := ti_all x3004); omega), ⟨(by have := (show x3004.toInt = x3004.toInt from rfl); rw [zct_1 (by exact (hf2901.resolve_left (fun h8 => by omega)).2.2) (by decide) 30 (by have := tn_of (show r2877.toInt = r2877.toInt from rfl) (by omega); omega)]; have := hct2669; omega), Or.inr ⟨by omega, by have := (show x3004.toInt = x3004.toInt from rfl); omega, hfm2667, hno2668⟩⟩, (by have := (show x3004.toInt = x3004.toInt from rfl); omega)⟩ _ _ hT hF (fun h9 => absurd h9 (by omega)) hS m2980 m2981 m2982 m2983 m2984 m2985 m2986 m2987 m2988 m2989 m2990 m2991 m2992 m2993 m2994 m2995 m2996 m2997 m2998 m2999 ls (lv_sub hl [0, 1, 4, 5, 6] rfl)
                  · have t3006 : r2877.toInt = (-1) := ti_eq c2928 rfl (by decide)
                    refine lv_goto (tgt := 155) hx hb dX0_giveFarms_115 (by decide) ?_
                    refine lv_aload_n hx hb dX0_giveFarms_155 rfl (lv_at hl 4 rfl) ?_
                    refine lv_dup hx hb dX0_giveFarms_156 rfl ?_
                    refine tw_getM (v := .int hl) hx hb hts bF2_X0 hown hK hT hr_o0 shc_3 rfl 15 (by decide) (ht_at2 hts 1 rfl) (fun _ h9 => h9) m2890 dX0_giveFarms_157 ?_
                    refine lv_iload_n hx hb dX0_giveFarms_160 rfl (lv_at hl 3 rfl) ?_
                    refine lv_iadd hx hb dX0_giveFarms_161 ?_
                    refine lv_topi (fun x3007 ex3007 => ?_)
                    have t3008 : x3007.toInt = hl.toInt + z2102.toInt := ti_add ex3007 rfl rfl (by omega) (by omega)
                    refine tw_put (v := .int x3007) (ty := .int) hx hb hts bF2_X0 tyX0 tyX0_ok nmX0 hown hK hT hG hS hr_o0 shc_3 rfl 15 (by decide) (ht_at2 hts 1 rfl) (fun _ h9 => h9) rfl (by decide +kernel) rfl rfl (gl_at rfl (gi_all _)) dX0_giveFarms_162 (fun H locs hT oq m3009 oj hS => ?_)
                    have hF := hF.put hr_o0 skc_3 oq oj (by decide)
                    have m3011 := m2880.kept (oq _ (gne hr_hd9 hr_o0 (by decide)))
                    refine lv_iload_n hx hb dX0_giveFarms_165 rfl (lv_at hl 3 rfl) ?_
                    exact W.iret (v := z2102) hx hb hr (fun t ht hW => ⟨⟨z2102, (x3007, V2106), rfl, (by exact ⟨(by have q8 := ti_all z2102; omega), (by have r9 := (show z2102.toInt = z2102.toInt from rfl); exact Or.inl ⟨by omega, ⟨by omega, by omega⟩, hfm2667, hno2668⟩), (by have := (show x3007.toInt = x3007.toInt from rfl); have := (show z2102.toInt = z2102.toInt from rfl); have := hct2669; exact ⟨by omega, by omega⟩)⟩), by (try dsimp only); rw [ht]; exact ⟨hT, hF, m3009, m3011, (fun h9 => by exfalso; have h8 := congrArg Int32.toInt h9; have z8 : (0 : Int32).toInt = 0 := (by decide); have := (show x3007.toInt = x3007.toInt from rfl); omega)⟩⟩, hS.F ht⟩) hS.2.2 dX0_giveFarms_166
        exact key2551 (60 - 0) 0 (by omega) (Nat.le_refl _) 0 V2 vh ⟨(by have q9 := (show (0 : Int32).toInt = 0 from (by decide)); (try have q8 := ti_all (0 : Int32)); omega), ⟨hct, Or.inl ⟨by omega, by decide, rfl, by rw [show nS.toNat = i1 from by omega]; exact hj22⟩⟩, (by have := (show (0 : Int32).toInt = 0 from (by decide)); omega)⟩ _ _ hT hF (fun _ => hF2) hS m3 m4 m5 m6 m7 m8 m9 m10 m11 m12 m13 m14 m15 m16 m17 m18 m19 m20 m21 m2097 ls (lv_sub hl [0, 1, 2, 3, 4] rfl)
      · have t3030 : ((i1 : Nat) : Int) < x2098.toInt := ti_nle c2099 rfl (nI_toInt (by omega))
        refine lv_aload_n hx hb dX0_giveFarms_10 rfl (lv_at hl 1 rfl) ?_
        refine lv_aload_n hx hb dX0_giveFarms_11 rfl (lv_at hl 1 rfl) ?_
        refine tw_getM (v := .ref sA) hx hb hts bF2_X0 hown hK hT hr_o0 shc_3 rfl 0 (by decide) (ht_at2 hts 4 rfl) (fun _ h9 => h9) m11 dX0_giveFarms_12 ?_
        refine lv_iload_n hx hb dX0_giveFarms_15 rfl (lv_at hl 0 rfl) ?_
        refine tw_aald (i := (nI i1)) hx hb hK hT hr_sA shc_51 rfl (vp_in_nI (by omega) (by decide)) dX0_giveFarms_16 (fun v9 m3031 h9 => ?_)
        obtain ⟨b3032, rfl, hg3033⟩ := (h9.1 (by have q9 := tn_of (show (nI i1).toInt = ((i1 : Nat) : Int) from (nI_toInt (by omega))) (by omega); omega))
        have fs3034 := hFS (nI i1).toNatClampNeg (by have := tn_of (show (nI i1).toInt = ((i1 : Nat) : Int) from (nI_toInt (by omega))) (by omega); omega) b3032 ((el_kept (hF2.arr hr_sA skc_51 (by decide))).symm.trans m3031)
        rw [tn_nI (by omega)] at fs3034
        have m3035 := (hF2.fld hg3033 skc_10 (k := 7) (by decide) (by decide)).trans fs3034.1
        have m3036 := (hF2.fld hg3033 skc_10 (k := 8) (by decide) (by decide)).trans fs3034.2.1
        have m3037 := (hF2.fld hg3033 skc_10 (k := 9) (by decide) (by decide)).trans fs3034.2.2.1
        have m3038 := (hF2.fld hg3033 skc_10 (k := 0) (by decide) (by decide)).trans fs3034.2.2.2.1
        obtain ⟨x3039, ex3039⟩ : ∃ y : Int32, y = vA i1 := ⟨_, rfl⟩
        rw [← ex3039] at m3038
        have m3040 := (hF2.fld hg3033 skc_10 (k := 1) (by decide) (by decide)).trans fs3034.2.2.2.2.1
        obtain ⟨x3041, ex3041⟩ : ∃ y : Int32, y = vD i1 := ⟨_, rfl⟩
        rw [← ex3041] at m3040
        have m3042 := (hF2.fld hg3033 skc_10 (k := 6) (by decide) (by decide)).trans fs3034.2.2.2.2.2.1
        obtain ⟨x3043, ex3043⟩ : ∃ y : Int32, y = vC i1 := ⟨_, rfl⟩
        rw [← ex3043] at m3042
        have m3044 := (hF2.fld hg3033 skc_10 (k := 2) (by decide) (by decide)).trans fs3034.2.2.2.2.2.2.1
        obtain ⟨x3045, ex3045⟩ : ∃ y : Int32, y = vU i1 := ⟨_, rfl⟩
        rw [← ex3045] at m3044
        have m3046 := (hF2.fld hg3033 skc_10 (k := 3) (by decide) (by decide)).trans fs3034.2.2.2.2.2.2.2.1
        obtain ⟨x3047, ex3047⟩ : ∃ y : Int32, y = vI i1 := ⟨_, rfl⟩
        rw [← ex3047] at m3046
        have h3048 : 0 ≤ x3047.toInt ∧ x3047.toInt ≤ 1 := by obtain ⟨v9, e9, h9⟩ := gH_fld hT hg3033 shc_10 (k := 3) (by decide); rw [m3046] at e9; cases e9; obtain ⟨y9, z9, a9, b9⟩ := h9 _ rfl; cases z9; exact ⟨a9, b9⟩
        have m3049 := (hF2.fld hg3033 skc_10 (k := 4) (by decide) (by decide)).trans fs3034.2.2.2.2.2.2.2.2
        obtain ⟨x3050, ex3050⟩ : ∃ y : Int32, y = vW i1 := ⟨_, rfl⟩
        rw [← ex3050] at m3049
        have h3051 : 0 ≤ x3050.toInt ∧ x3050.toInt ≤ 1 := by obtain ⟨v9, e9, h9⟩ := gH_fld hT hg3033 shc_10 (k := 4) (by decide); rw [m3049] at e9; cases e9; obtain ⟨y9, z9, a9, b9⟩ := h9 _ rfl; cases z9; exact ⟨a9, b9⟩
        refine lv_aload_n hx hb dX0_giveFarms_17 rfl (lv_at hl 3 rfl) ?_
        obtain ⟨V3052, m3053⟩ := ctl_of hT hr_fa9 shc_56
        have hFc := gA_free hG hA hS
        refine va_callv (va_runV (As := [.ref b3032, .ref p1]) (rest := []) ⟨hx, hb, hml, hown, hts⟩ (c_gatherFactsZ l dC dI kA adK adV G H nC nS o0 b3032 p1 fa9 (-1) 0 x3039 x3041 x3043 x3045 x3047 x3050 0 V3052 hT hg3033 hr_p1 hr_o0 m13 hr_fa9 m3035 m3036 m3038 m3040 m3042 m3044 m3046 m3049 m3037 (rg_t (a := (-1)) (by decide) (by first | decide | omega) (by first | decide | omega)) (by have q8 := ti_all x3047; omega) (by have q8 := ti_all x3050; omega) m3053 (by omega) (by omega)) (cwV 2 hts (goodIn_app (goodIn_r _ [35, 36, 37, 9] rfl (by decide +kernel)) (goodIn_ca (goodIn_r _ [25, 26, 27, 28, 29, 30, 9, 31, 32, 33, 34] rfl (by decide +kernel)) (bs2_in _ _))) rfl rfl rfl (by decide +kernel) ⟨(Nat.le_of_ble_eq_true rfl), (Nat.le_of_ble_eq_true rfl)⟩) ⟨fun a U g mk q => by obtain ⟨q0, q1, qK, qE⟩ := q; exact ⟨q0, q1, va_K.moved (u := U) (U := U.calling g mk a) (Vm.Alike.refl U.vm) qK, EVC.blind g mk a qE⟩, gH_rc hK hT hr_o0 shc_3 rfl, fun U hU hW => ⟨rfl, hU, va_K.moved hW.alike hK, hE.call hS hFc hU hW⟩⟩ rfl rfl hl.1 rfl (lv_room (Nat.le_of_ble_eq_true rfl)) dX0_giveFarms_18 ⟨(Nat.le_of_ble_eq_true rfl), (Nat.le_of_ble_eq_true rfl)⟩) hS (fun q _ h => hFc q h) hFc (fun u t H locs ht hvm hw3055 hB _ _ hS => ?_)
        obtain ⟨u3056, rfl⟩ : ∃ z, z = u := ⟨_, rfl⟩
        obtain ⟨hT, hF1, m3057⟩ := hB
        rw [ht] at hT hF1 m3057
        have m3058 := m3.kept (hF1.arr hr_mk9 skc_57 (by decide))
        have m3059 := m4.kept (hF1.arr hr_hd9 skc_54 (by decide))
        have m3060 := m5.kept (hF1.arr hr_kn skc_42 (by decide))
        have m3061 := m6.kept (hF1.arr hr_sf skc_47 (by decide))
        have m3062 := m7.kept (hF1.arr hr_sto skc_48 (by decide))
        have m3063 := m8.kept (hF1.arr hr_stp9 skc_49 (by decide))
        have m3064 := (hF1.fld hr_o0 skc_3 (k := 6) (by decide) (by decide)).trans m9
        have m3065 := (hF1.fld hr_o0 skc_3 (k := 3) (by decide) (by decide)).trans m10
        have m3066 := (hF1.fld hr_o0 skc_3 (k := 0) (by decide) (by decide)).trans m11
        have m3067 := (hF1.fld hr_o0 skc_3 (k := 16) (by decide) (by decide)).trans m12
        have m3068 := (hF1.fld hr_o0 skc_3 (k := 5) (by decide) (by decide)).trans m13
        have m3069 := (hF1.fld hr_o0 skc_3 (k := 15) (by decide) (by decide)).trans m14
        have m3070 := (hF1.fld hr_o0 skc_3 (k := 7) (by decide) (by decide)).trans m15
        have m3071 := (hF1.fld hr_lw skc_7 (k := 2) (by decide) (by decide)).trans m16
        have m3072 := (hF1.fld hr_lw skc_7 (k := 11) (by decide) (by decide)).trans m17
        have m3073 := (hF1.fld hr_lw skc_7 (k := 7) (by decide) (by decide)).trans m18
        have m3074 := (hF1.fld hr_lw skc_7 (k := 8) (by decide) (by decide)).trans m19
        have m3075 := (hF1.fld hr_lw skc_7 (k := 9) (by decide) (by decide)).trans m20
        have m3076 := (hF1.fld hr_lw skc_7 (k := 10) (by decide) (by decide)).trans m21
        have m3078 := (el_kept (hF1.arr hr_sA skc_51 (by decide))).trans m3031
        have m3079 := (hF1.fld hg3033 skc_10 (k := 7) (by decide) (by decide)).trans m3035
        have hF := hF.more hF1 (by decide)
        have hF2 := hF2.more hF1 (by decide)
        try dsimp only at hw3055
        have hf3089 := hw3055
        refine lv_aload_n hx hb dX0_giveFarms_21 rfl (lv_at hl 1 rfl) ?_
        refine tw_getM (v := .ref sA) hx hb hts bF2_X0 hown hK hT hr_o0 shc_3 rfl 0 (by decide) (ht_at2 hts 4 rfl) (fun _ h9 => h9) m3066 dX0_giveFarms_22 ?_
        refine lv_iload_n hx hb dX0_giveFarms_25 rfl (lv_at hl 0 rfl) ?_
        refine tw_aald (i := (nI i1)) hx hb hK hT hr_sA shc_51 rfl (vp_in_nI (by omega) (by decide)) dX0_giveFarms_26 (fun v9 m3090 h9 => ?_)
        obtain ⟨b3091, rfl, hg3092⟩ := (h9.1 (by have q9 := tn_of (show (nI i1).toInt = ((i1 : Nat) : Int) from (nI_toInt (by omega))) (by omega); omega))
        obtain rfl : b3032 = b3091 := (el_sameR m3090 m3078 (show (nI i1).toInt = (nI i1).toInt from by have q9 := (show (nI i1).toInt = ((i1 : Nat) : Int) from (nI_toInt (by omega))); have q8 := (show (nI i1).toInt = ((i1 : Nat) : Int) from (nI_toInt (by omega))); omega)).symm
        refine tw_getNM (v := .int (-1)) hx hb hts bF2_X7 hown hK hT hg3033 shc_10 rfl 7 (by decide) (hE.nw 61 rfl) (fun _ h9 => h9) m3079 dX0_giveFarms_27 ?_
        refine lv_iconst (v := (-1)) hx hb dX0_giveFarms_30 (by decide) ?_
        refine lv_icmp_ne (tgt := 47) hx hb dX0_giveFarms_31 (by decide) (fun c3093 => absurd c3093 (by decide)) (fun c3093 => ?_)
        refine lv_aload_n hx hb dX0_giveFarms_34 rfl (lv_at hl 1 rfl) ?_
        refine lv_bipush (v := 6) hx hb dX0_giveFarms_35 (by decide) ?_
        obtain ⟨V3094, m3095⟩ := ctl_of hT hr_stk shc_50
        have hFc := gA_free hG hA hS
        refine va_calli (va_runV (As := [.int 6]) (rest := []) ⟨hx, hb, hml, hown, hts⟩ (c_isRuledZ l dC dI kA adK adV G H nC nS o0 lw kn ln sf sto stp9 stk fa9 vK vF vT vS V3094 u3056 A9 ((zLs (fun _ => 0) vA vD vC vU vI vW (fun _ => 0)) i1) hT hr_o0 m3070 hr_lw m3071 hr_kn m3072 m3073 hr_sf m3074 hr_sto m3075 hr_stp9 m3076 hr_stk m3068 hr_fa9 (by have q8 := ti_all ln; omega) hrp hzk hln (by have f9 := hf3089; rw [ex3039, ex3041, ex3043, ex3045, ex3047, ex3050] at f9; exact f9) m3060 m3061 m3062 m3063 m3095 m3057 (by omega) (by omega)) (cwV 1 hts (goodIn_app (goodIn_r _ [61, 62, 63, 9] rfl (by decide +kernel)) (goodIn_ca (goodIn_r _ [38, 39, 26, 40, 41, 42, 43, 44, 45, 46, 47, 48, 49, 50, 17, 51, 52, 53, 54, 55, 56, 57, 58, 59, 60] rfl (by decide +kernel)) (bs2_in _ _))) rfl rfl rfl (by decide +kernel) ⟨(Nat.le_of_ble_eq_true rfl), (Nat.le_of_ble_eq_true rfl)⟩) ⟨fun a U g mk q => by obtain ⟨q0, q1, qK, qE⟩ := q; exact ⟨q0, q1, va_K.moved (u := U) (U := U.calling g mk a) (Vm.Alike.refl U.vm) qK, EVC.blind g mk a qE⟩, gH_rc hK hT hr_o0 shc_3 rfl, fun U hU hW => ⟨rfl, hU, va_K.moved hW.alike hK, hE.call hS hFc hU hW⟩⟩ rfl rfl hl.1 rfl (lv_room (Nat.le_of_ble_eq_true rfl)) dX0_giveFarms_37 ⟨(Nat.le_of_ble_eq_true rfl), (Nat.le_of_ble_eq_true rfl)⟩) hS (fun q _ h => hFc q h) hFc (fun r3096 u t H locs ht hvm hw3097 hB _ _ hS => ?_)
        obtain ⟨hT, hF1⟩ := hB
        rw [ht] at hT hF1
        have m3098 := m3058.kept (hF1.arr hr_mk9 skc_57 (by decide))
        have m3099 := m3059.kept (hF1.arr hr_hd9 skc_54 (by decide))
        have m3100 := m3060.kept (hF1.arr hr_kn skc_42 (by decide))
        have m3101 := m3061.kept (hF1.arr hr_sf skc_47 (by decide))
        have m3102 := m3062.kept (hF1.arr hr_sto skc_48 (by decide))
        have m3103 := m3063.kept (hF1.arr hr_stp9 skc_49 (by decide))
        have m3104 := (hF1.fld hr_o0 skc_3 (k := 6) (by decide) (by decide)).trans m3064
        have m3105 := (hF1.fld hr_o0 skc_3 (k := 3) (by decide) (by decide)).trans m3065
        have m3106 := (hF1.fld hr_o0 skc_3 (k := 0) (by decide) (by decide)).trans m3066
        have m3107 := (hF1.fld hr_o0 skc_3 (k := 16) (by decide) (by decide)).trans m3067
        have m3108 := (hF1.fld hr_o0 skc_3 (k := 5) (by decide) (by decide)).trans m3068
        have m3109 := (hF1.fld hr_o0 skc_3 (k := 15) (by decide) (by decide)).trans m3069
        have m3110 := (hF1.fld hr_o0 skc_3 (k := 7) (by decide) (by decide)).trans m3070
        have m3111 := (hF1.fld hr_lw skc_7 (k := 2) (by decide) (by decide)).trans m3071
        have m3112 := (hF1.fld hr_lw skc_7 (k := 11) (by decide) (by decide)).trans m3072
        have m3113 := (hF1.fld hr_lw skc_7 (k := 7) (by decide) (by decide)).trans m3073
        have m3114 := (hF1.fld hr_lw skc_7 (k := 8) (by decide) (by decide)).trans m3074
        have m3115 := (hF1.fld hr_lw skc_7 (k := 9) (by decide) (by decide)).trans m3075
        have m3116 := (hF1.fld hr_lw skc_7 (k := 10) (by decide) (by decide)).trans m3076
        have hF := hF.more hF1 (by decide)
        have hF2 := hF2.more hF1 (by decide)
        try dsimp only at hw3097
        obtain ⟨h3130, hf3131⟩ := hw3097
        refine lv_if_ne (tgt := 47) hx hb dX0_giveFarms_40 (by decide) (fun c3132 => ?_) (fun c3132 => ?_)
        · have t3133 : r3096.toInt ≠ 0 := ti_ne c3132 rfl (by decide)
          refine lv_iconst (v := 0) hx hb dX0_giveFarms_47 (by decide) ?_
          refine lv_istore (lv' := [(4, .int 0), (3, .int (nI i1)), (0, .ref o0), (1, .int p0), (2, .ref p1)]) hx hb dX0_giveFarms_48 hl (by decide) rfl (fun ls hl => ?_)
          refine lv_aload_n hx hb dX0_giveFarms_50 rfl (lv_at hl 2 rfl) ?_
          refine tw_getM (v := .ref mk9) hx hb hts bF2_X0 hown hK hT hr_o0 shc_3 rfl 6 (by decide) (ht_at2 hts 3 rfl) (fun _ h9 => h9) m3104 dX0_giveFarms_51 ?_
          refine lv_iload_n hx hb dX0_giveFarms_54 rfl (lv_at hl 1 rfl) ?_
          refine lv_iload hx hb dX0_giveFarms_55 (lv_at hl 0 rfl) ?_
          refine lv_if_eq (tgt := 68) hx hb dX0_giveFarms_57 (by decide) (fun c3134 => ?_) (fun c3134 => absurd c3134 (by decide))
          refine lv_iconst (v := (-1)) hx hb dX0_giveFarms_68 (by decide) ?_
          refine tw_iast (i := (nI i1)) (x := (-1)) hx hb hK hT hG hS hr_mk9 shc_57 rfl (vp_in_nI (by omega) (by decide)) (gi_all _) dX0_giveFarms_69 (fun H locs hT oq m3135 oi hS => ?_)
          have hF := hF.ast hr_mk9 skc_57 oq (by decide)
          have hF2 := hF2.ast hr_mk9 skc_57 oq (by decide)
          have m3136 := m3098.put m3135 oi
          have m3137 := m3099.kept (oq _ (gne hr_hd9 hr_mk9 (by decide)))
          have m3138 := m3100.kept (oq _ (gne hr_kn hr_mk9 (by decide)))
          have m3139 := m3101.kept (oq _ (gne hr_sf hr_mk9 (by decide)))
          have m3140 := m3102.kept (oq _ (gne hr_sto hr_mk9 (by decide)))
          have m3141 := m3103.kept (oq _ (gne hr_stp9 hr_mk9 (by decide)))
          have m3142 := (el_kept (oq _ (gne hr_o0 hr_mk9 (by decide)))).trans m3104
          have m3143 := (el_kept (oq _ (gne hr_o0 hr_mk9 (by decide)))).trans m3105
          have m3144 := (el_kept (oq _ (gne hr_o0 hr_mk9 (by decide)))).trans m3106
          have m3145 := (el_kept (oq _ (gne hr_o0 hr_mk9 (by decide)))).trans m3107
          have m3146 := (el_kept (oq _ (gne hr_o0 hr_mk9 (by decide)))).trans m3108
          have m3147 := (el_kept (oq _ (gne hr_o0 hr_mk9 (by decide)))).trans m3109
          have m3148 := (el_kept (oq _ (gne hr_o0 hr_mk9 (by decide)))).trans m3110
          have m3149 := (el_kept (oq _ (gne hr_lw hr_mk9 (by decide)))).trans m3111
          have m3150 := (el_kept (oq _ (gne hr_lw hr_mk9 (by decide)))).trans m3112
          have m3151 := (el_kept (oq _ (gne hr_lw hr_mk9 (by decide)))).trans m3113
          have m3152 := (el_kept (oq _ (gne hr_lw hr_mk9 (by decide)))).trans m3114
          have m3153 := (el_kept (oq _ (gne hr_lw hr_mk9 (by decide)))).trans m3115
          have m3154 := (el_kept (oq _ (gne hr_lw hr_mk9 (by decide)))).trans m3116
          refine lv_iinc (v := nI (i1 + 1)) (lv' := [(3, .int (nI (i1 + 1))), (4, .int 0), (0, .ref o0), (1, .int p0), (2, .ref p1)]) hx hb dX0_giveFarms_70 hl (k := 1) rfl (nI_add i1 1) (by decide) rfl (fun ls hl => ?_)
          refine lv_goto (tgt := 2) hx hb dX0_giveFarms_73 (by decide) ?_
          exact ih1162 (i1 + 1) (by omega) (by omega) (cu V2 (nI i1).toNatClampNeg (-1 : Int32)) ⟨(zPm_s hj22 (tn_nI (by omega)) (by have x9 := (show (-1 : Int32).toInt = (-1) from (by decide)); rcases hf3131 with ⟨h8, h7⟩ | ⟨h8, h7⟩; (exact Or.inr ⟨by omega, h7⟩); exact Or.inl ⟨by omega, h7⟩)), (by omega)⟩ _ _ hT hF hF2 hS m3136 m3137 m3138 m3139 m3140 m3141 m3142 m3143 m3144 m3145 m3146 m3147 m3148 m3149 m3150 m3151 m3152 m3153 m3154 ls (lv_sub hl [0, 2, 3, 4] rfl)
        · have t3167 : r3096.toInt = 0 := ti_eq c3132 rfl (by decide)
          refine lv_iconst (v := 1) hx hb dX0_giveFarms_43 (by decide) ?_
          refine lv_goto (tgt := 48) hx hb dX0_giveFarms_44 (by decide) ?_
          refine lv_istore (lv' := [(4, .int 1), (3, .int (nI i1)), (0, .ref o0), (1, .int p0), (2, .ref p1)]) hx hb dX0_giveFarms_48 hl (by decide) rfl (fun ls hl => ?_)
          refine lv_aload_n hx hb dX0_giveFarms_50 rfl (lv_at hl 2 rfl) ?_
          refine tw_getM (v := .ref mk9) hx hb hts bF2_X0 hown hK hT hr_o0 shc_3 rfl 6 (by decide) (ht_at2 hts 3 rfl) (fun _ h9 => h9) m3104 dX0_giveFarms_51 ?_
          refine lv_iload_n hx hb dX0_giveFarms_54 rfl (lv_at hl 1 rfl) ?_
          refine lv_iload hx hb dX0_giveFarms_55 (lv_at hl 0 rfl) ?_
          refine lv_if_eq (tgt := 68) hx hb dX0_giveFarms_57 (by decide) (fun c3168 => absurd c3168 (by decide)) (fun c3168 => ?_)
          refine lv_aload_n hx hb dX0_giveFarms_60 rfl (lv_at hl 2 rfl) ?_
          refine lv_iconst (v := 4) hx hb dX0_giveFarms_61 (by decide) ?_
          have hFc := gA_free hG hA hS
          refine va_calli (va_runV (As := [.int 4]) (rest := [.int (nI i1), .ref mk9]) ⟨hx, hb, hml, hown, hts⟩ (c_ruledN l dC dI kA adK adV G H nC nS o0 4 hT hr_o0 (by omega) (by omega)) (cwV 1 hts (goodIn_app (goodIn_r _ [70, 71, 72, 9] rfl (by decide +kernel)) (goodIn_ca (goodIn_r _ [64, 39, 26, 65, 41, 42, 43, 44, 45, 46, 47, 48, 49, 50, 17, 51, 52, 53, 54, 55, 56, 57, 66, 67, 68, 69] rfl (by decide +kernel)) (bs2_in _ _))) rfl rfl rfl (by decide +kernel) ⟨(Nat.le_of_ble_eq_true rfl), (Nat.le_of_ble_eq_true rfl)⟩) ⟨fun a U g mk q => by obtain ⟨q0, q1, qK, qE⟩ := q; exact ⟨q0, q1, va_K.moved (u := U) (U := U.calling g mk a) (Vm.Alike.refl U.vm) qK, EVC.blind g mk a qE⟩, gH_rc hK hT hr_o0 shc_3 rfl, fun U hU hW => ⟨rfl, hU, va_K.moved hW.alike hK, hE.call hS hFc hU hW⟩⟩ rfl rfl hl.1 rfl (lv_room (Nat.le_of_ble_eq_true rfl)) dX0_giveFarms_62 ⟨(Nat.le_of_ble_eq_true rfl), (Nat.le_of_ble_eq_true rfl)⟩) hS (fun q _ h => hFc q h) hFc (fun r3169 u t H locs ht hvm hw3170 hB _ _ hS => ?_)
          obtain ⟨hT, hF1⟩ := hB
          rw [ht] at hT hF1
          have m3171 := m3098.kept (hF1.arr hr_mk9 skc_57 (by decide))
          have m3172 := m3099.kept (hF1.arr hr_hd9 skc_54 (by decide))
          have m3173 := m3100.kept (hF1.arr hr_kn skc_42 (by decide))
          have m3174 := m3101.kept (hF1.arr hr_sf skc_47 (by decide))
          have m3175 := m3102.kept (hF1.arr hr_sto skc_48 (by decide))
          have m3176 := m3103.kept (hF1.arr hr_stp9 skc_49 (by decide))
          have m3177 := (hF1.fld hr_o0 skc_3 (k := 6) (by decide) (by decide)).trans m3104
          have m3178 := (hF1.fld hr_o0 skc_3 (k := 3) (by decide) (by decide)).trans m3105
          have m3179 := (hF1.fld hr_o0 skc_3 (k := 0) (by decide) (by decide)).trans m3106
          have m3180 := (hF1.fld hr_o0 skc_3 (k := 16) (by decide) (by decide)).trans m3107
          have m3181 := (hF1.fld hr_o0 skc_3 (k := 5) (by decide) (by decide)).trans m3108
          have m3182 := (hF1.fld hr_o0 skc_3 (k := 15) (by decide) (by decide)).trans m3109
          have m3183 := (hF1.fld hr_o0 skc_3 (k := 7) (by decide) (by decide)).trans m3110
          have m3184 := (hF1.fld hr_lw skc_7 (k := 2) (by decide) (by decide)).trans m3111
          have m3185 := (hF1.fld hr_lw skc_7 (k := 11) (by decide) (by decide)).trans m3112
          have m3186 := (hF1.fld hr_lw skc_7 (k := 7) (by decide) (by decide)).trans m3113
          have m3187 := (hF1.fld hr_lw skc_7 (k := 8) (by decide) (by decide)).trans m3114
          have m3188 := (hF1.fld hr_lw skc_7 (k := 9) (by decide) (by decide)).trans m3115
          have m3189 := (hF1.fld hr_lw skc_7 (k := 10) (by decide) (by decide)).trans m3116
          have hF := hF.more hF1 (by decide)
          have hF2 := hF2.more hF1 (by decide)
          try dsimp only at hw3170
          have h3202 := hw3170
          refine lv_goto (tgt := 69) hx hb dX0_giveFarms_65 (by decide) ?_
          refine tw_iast (i := (nI i1)) (x := r3169) hx hb hK hT hG hS hr_mk9 shc_57 rfl (vp_in_nI (by omega) (by decide)) (gi_all _) dX0_giveFarms_69 (fun H locs hT oq m3203 oi hS => ?_)
          have hF := hF.ast hr_mk9 skc_57 oq (by decide)
          have hF2 := hF2.ast hr_mk9 skc_57 oq (by decide)
          have m3204 := m3171.put m3203 oi
          have m3205 := m3172.kept (oq _ (gne hr_hd9 hr_mk9 (by decide)))
          have m3206 := m3173.kept (oq _ (gne hr_kn hr_mk9 (by decide)))
          have m3207 := m3174.kept (oq _ (gne hr_sf hr_mk9 (by decide)))
          have m3208 := m3175.kept (oq _ (gne hr_sto hr_mk9 (by decide)))
          have m3209 := m3176.kept (oq _ (gne hr_stp9 hr_mk9 (by decide)))
          have m3210 := (el_kept (oq _ (gne hr_o0 hr_mk9 (by decide)))).trans m3177
          have m3211 := (el_kept (oq _ (gne hr_o0 hr_mk9 (by decide)))).trans m3178
          have m3212 := (el_kept (oq _ (gne hr_o0 hr_mk9 (by decide)))).trans m3179
          have m3213 := (el_kept (oq _ (gne hr_o0 hr_mk9 (by decide)))).trans m3180
          have m3214 := (el_kept (oq _ (gne hr_o0 hr_mk9 (by decide)))).trans m3181
          have m3215 := (el_kept (oq _ (gne hr_o0 hr_mk9 (by decide)))).trans m3182
          have m3216 := (el_kept (oq _ (gne hr_o0 hr_mk9 (by decide)))).trans m3183
          have m3217 := (el_kept (oq _ (gne hr_lw hr_mk9 (by decide)))).trans m3184
          have m3218 := (el_kept (oq _ (gne hr_lw hr_mk9 (by decide)))).trans m3185
          have m3219 := (el_kept (oq _ (gne hr_lw hr_mk9 (by decide)))).trans m3186
          have m3220 := (el_kept (oq _ (gne hr_lw hr_mk9 (by decide)))).trans m3187
          have m3221 := (el_kept (oq _ (gne hr_lw hr_mk9 (by decide)))).trans m3188
          have m3222 := (el_kept (oq _ (gne hr_lw hr_mk9 (by decide)))).trans m3189
          refine lv_iinc (v := nI (i1 + 1)) (lv' := [(3, .int (nI (i1 + 1))), (4, .int 1), (0, .ref o0), (1, .int p0), (2, .ref p1)]) hx hb dX0_giveFarms_70 hl (k := 1) rfl (nI_add i1 1) (by decide) rfl (fun ls hl => ?_)
          refine lv_goto (tgt := 2) hx hb dX0_giveFarms_73 (by decide) ?_
          exact ih1162 (i1 + 1) (by omega) (by omega) (cu V2 (nI i1).toNatClampNeg r3169) ⟨(zPm_s hj22 (tn_nI (by omega)) (by have x9 := (show r3169.toInt = r3169.toInt from rfl); rcases hf3131 with ⟨h8, h7⟩ | ⟨h8, h7⟩; (exact Or.inr ⟨by omega, h7⟩); exact Or.inl ⟨by omega, h7⟩)), (by omega)⟩ _ _ hT hF hF2 hS m3204 m3205 m3206 m3207 m3208 m3209 m3210 m3211 m3212 m3213 m3214 m3215 m3216 m3217 m3218 m3219 m3220 m3221 m3222 ls (lv_sub hl [0, 2, 3, 4] rfl)
  exact key1162 (60 - 0) 0 (by omega) (Nat.le_refl _) vM0 ⟨zPm_0, (by omega)⟩ _ _ hT hF hF2 hS hc_vM0 hc_vh hc_vK hc_vF hc_vT hc_vS hm_mk9 hm_hd9 hm_sA hm_fm hm_fa9 hm_hl hm_lw hm_kn hm_ln hm_sf hm_sto hm_stp9 hm_stk ls (lv_sub hl [0, 1, 2, 3] rfl)
