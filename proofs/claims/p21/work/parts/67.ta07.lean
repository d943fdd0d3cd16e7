set_option maxHeartbeats 4000000 in
set_option maxRecDepth 100000 in
theorem c_giveFarmsZ (l : Launch) (dC : Nat → ClassId) (dI : Nat → Nat → Nat) (kA : Nat → ClassId) (adK adV : Nat → Nat) (G : gT) (H0 : Heap) (nC nS : Int) (o0 : Nat) (p0 : Int32) (p1 : Nat) (mk9 : Nat) (hd9 : Nat) (sA : Nat) (fm : Int32) (fa9 : Nat) (hv0 : Int32) (lw : Nat) (kn : Nat) (ln : Int32) (sf : Nat) (sto : Nat) (stp9 : Nat) (stk : Nat) (vM0 : Nat → Int32) (vh : Nat → Int32) (vK : Nat → Int32) (vF : Nat → Int32) (vT : Nat → Int32) (vS : Nat → Int32) (vQ : Nat → Int64) (fL : Nat → Int64) (A9 : zAl) (vA vD vC vU vI vW : Nat → Int32) (hT : gH (dC, dI) kA (SHc nC nS) G H0) (hr_p1 : G p1 = some 6) (hr_o0 : G o0 = some 3) (hm_mk9 : el H0 o0 (dI 3 6) = some (.ref mk9)) (hr_mk9 : G mk9 = some 57) (hm_hd9 : el H0 o0 (dI 3 3) = some (.ref hd9)) (hr_hd9 : G hd9 = some 54) (hm_sA : el H0 o0 (dI 3 0) = some (.ref sA)) (hr_sA : G sA = some 51) (hm_fm : el H0 o0 (dI 3 16) = some (.int fm)) (hm_fa9 : el H0 o0 (dI 3 5) = some (.ref fa9)) (hr_fa9 : G fa9 = some 56) (hm_hv0 : el H0 o0 (dI 3 15) = some (.int hv0)) (hm_lw : el H0 o0 (dI 3 7) = some (.ref lw)) (hr_lw : G lw = some 7) (hm_kn : el H0 lw (dI 7 2) = some (.ref kn)) (hr_kn : G kn = some 42) (hm_ln : el H0 lw (dI 7 11) = some (.int ln)) (hm_sf : el H0 lw (dI 7 7) = some (.ref sf)) (hr_sf : G sf = some 47) (hm_sto : el H0 lw (dI 7 8) = some (.ref sto)) (hr_sto : G sto = some 48) (hm_stp9 : el H0 lw (dI 7 9) = some (.ref stp9)) (hr_stp9 : G stp9 = some 49) (hm_stk : el H0 lw (dI 7 10) = some (.ref stk)) (hr_stk : G stk = some 50) (hq0 : 0 ≤ p0.toInt ∧ p0.toInt ≤ 60) (hq1 : 0 ≤ fm.toInt ∧ fm.toInt ≤ 30) (hq2 : 0 ≤ hv0.toInt ∧ hv0.toInt ≤ 0) (hq3 : 0 ≤ ln.toInt ∧ ln.toInt ≤ 20) (hnh : ∀ f : Nat, f < 30 → (vh f).toInt = 0) (hct : zct vh 30 = 0) (hFS : ∀ i : Nat, ((i : Nat) : Int) < nS → ∀ a : Nat, el H0 sA i = some (.ref a) → zSf dI H0 a (vA i) (vD i) (vC i) (vU i) (vI i) (vW i)) (hrp : zRp A9 vK vF vT (tz vS) 400) (hzk : ∀ e ∈ A9, zok e.2) (hln : ((A9.length : Nat) : Int) = ln.toInt) (hc_vM0 : ct H0 mk9 60 vM0) (hc_vh : ct H0 hd9 30 vh) (hc_vK : ct H0 kn 20 vK) (hc_vF : ct H0 sf 20 vF) (hc_vT : ct H0 sto 20 vT) (hc_vS : ct H0 stp9 400 vS) (hc_vQ : ctl H0 stk 20 vQ) (hc_fL : ctl H0 fa9 10 fL) (hgC : 0 ≤ nC ∧ nC ≤ 40) (hgS : 0 ≤ nS ∧ nS ≤ 60) : Met l yX0_giveFarms w_c_giveFarmsZ ({ frames := 5, cells := 0, slots := 0, locals := 135 }) (va_Pc [.ref o0, .int p0, .ref p1] (fun U => U.heap = H0 ∧ va_K (dC, dI) vwCl (tyl kA) U ∧ EVC adK adV (gA G H0.size) U U.heap)) (va_Qi (fun (r : Int32) (u : Int32 × (Nat → Int32)) => match u with | (hl1, vh1) => (0 ≤ r.toInt ∧ r.toInt ≤ 60) ∧ ((0 < r.toInt ∧ ((1 ≤ p0.toInt ∧ p0.toInt ≤ 60) ∧ 0 < fm.toInt ∧ zNO (zLs (fun _ => 0) vA vD vC vU vI vW (fun _ => 0)) A9 nS)) ∨ (r.toInt = 0 ∧ ¬ ((1 ≤ p0.toInt ∧ p0.toInt ≤ 60) ∧ 0 < fm.toInt ∧ zNO (zLs (fun _ => 0) vA vD vC vU vI vW (fun _ => 0)) A9 nS) ∧ vh = vh1)) ∧ (hl1.toInt = r.toInt ∧ zct vh1 30 = hl1.toInt)) (fun (u : Int32 × (Nat → Int32)) (t : State) => match u with | (hl1, vh1) => gH (dC, dI) kA (SHc nC nS) G t.heap ∧ gF (dC, dI) SKc G ([(3, 15), (10, 7), (50, 0), (54, 0), (56, 0), (57, 0)] : List (Nat × Nat)) H0 t.heap ∧ el t.heap o0 (dI 3 15) = some (.int hl1) ∧ ct t.heap hd9 30 vh1 ∧ (hl1 = 0 → gF (dC, dI) SKc G ([(3, 15), (50, 0), (56, 0), (57, 0)] : List (Nat × Nat)) H0 t.heap)) (gA G H0.size)) 0 0 (gA G H0.size) := by
  refine Met.ofW (cc := cX0_giveFarms) (maxL := 7) (ret := (some .int)) (by decide) rfl ?_
  intro p e s m args below meth c s₁ B hml hv
  obtain ⟨rfl, hH0, hK, hE⟩ := hv
  have hx := B.exec
  have hb := B.bytes
  have hr := B.returns
  have hts := atoms_spec (ws := w_c_giveFarmsZ) B.pre
  have hown : s.vm.findClass RX0 = some m.cls := findClass_of_methodNamed B.named
  have hlocks := B.notSynchronized
  subst hH0
  generalize hAe : gA G s.heap.size = A at hE ⊢
  have hA : ∀ q : Nat, s.heap.size ≤ q → A q := fun q h => by rw [← hAe]; exact Or.inr h
  have hG := gA_of hAe
  have hS : va_S A s.heap s.heap [] := va_S.rf
  have hF : gF (dC, dI) SKc G ([(3, 15), (10, 7), (50, 0), (54, 0), (56, 0), (57, 0)] : List (Nat × Nat)) s.heap s.heap := gF.rf
  have hl := lv_entry ([.ref o0, .int p0, .ref p1]) (n := 7) (Nat.le_of_ble_eq_true rfl)
  rw [lg_entry_eq]
  generalize (lg_sl ([.ref o0, .int p0, .ref p1]) ++ List.replicate (7 - (lg_sl ([.ref o0, .int p0, .ref p1])).length) Slot.unset).toArray = ls at hl ⊢
  have hl : lv_has ls 7 [(0, .ref o0), (1, .int p0), (2, .ref p1)] := hl
  have hF2 : gF (dC, dI) SKc G ([(3, 15), (50, 0), (56, 0), (57, 0)] : List (Nat × Nat)) s.heap s.heap := gF.rf
  refine lv_iconst (v := 0) hx hb dX0_giveFarms_0 (by decide) ?_
  refine lv_istore_n (lv' := [(3, .int 0), (0, .ref o0), (1, .int p0), (2, .ref p1)]) hx hb dX0_giveFarms_1 rfl hl (by decide) rfl (fun ls hl => ?_)
  have key1163 : ∀ (n1163 i1 : Nat), i1 + n1163 = 60 → 0 ≤ i1 → ∀ (V2 : Nat → Int32), ((zPm (zLs (fun _ => 0) vA vD vC vU vI vW (fun _ => 0)) A9 V2 i1) ∧ (((i1 : Nat) : Int) ≤ nS)) → ∀ (H : Heap) (locs : List Loc), gH (dC, dI) kA (SHc nC nS) G H → gF (dC, dI) SKc G ([(3, 15), (10, 7), (50, 0), (54, 0), (56, 0), (57, 0)] : List (Nat × Nat)) s.heap H → (gF (dC, dI) SKc G ([(3, 15), (50, 0), (56, 0), (57, 0)] : List (Nat × Nat)) s.heap H) → va_S A s.heap H locs → ct H mk9 60 V2 → ct H hd9 30 vh → ct H kn 20 vK → ct H sf 20 vF → ct H sto 20 vT → ct H stp9 400 vS → el H o0 (dI 3 6) = some (.ref mk9) → el H o0 (dI 3 3) = some (.ref hd9) → el H o0 (dI 3 0) = some (.ref sA) → el H o0 (dI 3 16) = some (.int fm) → el H o0 (dI 3 5) = some (.ref fa9) → el H o0 (dI 3 15) = some (.int hv0) → el H o0 (dI 3 7) = some (.ref lw) → el H lw (dI 7 2) = some (.ref kn) → el H lw (dI 7 11) = some (.int ln) → el H lw (dI 7 7) = some (.ref sf) → el H lw (dI 7 8) = some (.ref sto) → el H lw (dI 7 9) = some (.ref stp9) → el H lw (dI 7 10) = some (.ref stk) → ∀ ls : Array Slot, lv_has ls 7 [(3, .int (nI i1)), (0, .ref o0), (1, .int p0), (2, .ref p1)] → W p l e (headSpec w_c_giveFarmsZ ({ frames := 5, cells := 0, slots := 0, locals := 135 })).room s m #[.ref o0, .int p0, .ref p1] below meth c H locs 0 0 (MQ below (va_Qi (fun (r : Int32) (u : Int32 × (Nat → Int32)) => match u with | (hl1, vh1) => (0 ≤ r.toInt ∧ r.toInt ≤ 60) ∧ ((0 < r.toInt ∧ ((1 ≤ p0.toInt ∧ p0.toInt ≤ 60) ∧ 0 < fm.toInt ∧ zNO (zLs (fun _ => 0) vA vD vC vU vI vW (fun _ => 0)) A9 nS)) ∨ (r.toInt = 0 ∧ ¬ ((1 ≤ p0.toInt ∧ p0.toInt ≤ 60) ∧ 0 < fm.toInt ∧ zNO (zLs (fun _ => 0) vA vD vC vU vI vW (fun _ => 0)) A9 nS) ∧ vh = vh1)) ∧ (hl1.toInt = r.toInt ∧ zct vh1 30 = hl1.toInt)) (fun (u : Int32 × (Nat → Int32)) (t : State) => match u with | (hl1, vh1) => gH (dC, dI) kA (SHc nC nS) G t.heap ∧ gF (dC, dI) SKc G ([(3, 15), (10, 7), (50, 0), (54, 0), (56, 0), (57, 0)] : List (Nat × Nat)) s.heap t.heap ∧ el t.heap o0 (dI 3 15) = some (.int hl1) ∧ ct t.heap hd9 30 vh1 ∧ (hl1 = 0 → gF (dC, dI) SKc G ([(3, 15), (50, 0), (56, 0), (57, 0)] : List (Nat × Nat)) s.heap t.heap)) A) #[.ref o0, .int p0, .ref p1] s 0 0 A) (F0 m 2 ls []) := by
    intro n1163
    induction n1163 with
    | zero =>
      intro i1 hn1163 hlo1164 V2 ⟨hj22, hj23⟩ H locs hT hF hF2 hS m3 m4 m5 m6 m7 m8 m9 m10 m11 m12 m13 m14 m15 m16 m17 m18 m19 m20 m21 ls hl
      obtain rfl : 60 = i1 := by omega
      refine lv_iload_n hx hb dX0_giveFarms_2 rfl (lv_at hl 0 rfl) ?_
      refine lv_aload_n hx hb dX0_giveFarms_3 rfl (lv_at hl 1 rfl) ?_
      refine tw_get hx hb hts bF2_X0 hown hK hT hr_o0 shc_3 rfl 14 (by decide) (ht_at2 hts 0 rfl) (fun _ h9 => h9) dX0_giveFarms_4 (fun v9 m1165 h9 => ?_)
      obtain ⟨x1166, rfl, gx1166, kx1166⟩ := h9 _ rfl
      refine lv_icmp_ge (tgt := 76) hx hb dX0_giveFarms_7 (by decide) (fun c1167 => ?_) (fun c1167 => (by exfalso; have q9 : ((60 : Nat) : Int) < x1166.toInt := ti_nle c1167 rfl (nI_toInt (by omega)); omega))
      have t1168 : x1166.toInt ≤ ((60 : Nat) : Int) := ti_le c1167 rfl (nI_toInt (by omega))
      refine lv_iconst (v := 0) hx hb dX0_giveFarms_76 (by decide) ?_
      refine lv_istore_n (lv' := [(3, .int 0), (0, .ref o0), (1, .int p0), (2, .ref p1)]) hx hb dX0_giveFarms_77 rfl hl (by decide) rfl (fun ls hl => ?_)
      refine lv_iconst (v := 0) hx hb dX0_giveFarms_78 (by decide) ?_
      refine lv_istore (lv' := [(4, .int 0), (3, .int 0), (0, .ref o0), (1, .int p0), (2, .ref p1)]) hx hb dX0_giveFarms_79 hl (by decide) rfl (fun ls hl => ?_)
      have key1620 : ∀ (n1620 i1169 : Nat), i1169 + n1620 = 60 → 0 ≤ i1169 → ∀ (z1170 : Int32), ∀ (V1172 : Nat → Int32), ∀ (V1174 : Nat → Int32), ((0 ≤ z1170.toInt ∧ z1170.toInt ≤ 60) ∧ ((zct V1174 30 = z1170.toInt) ∧ ((((i1169 : Nat) : Int) = 0 ∧ z1170.toInt = 0 ∧ vh = V1174 ∧ zPm (zLs (fun _ => 0) vA vD vC vU vI vW (fun _ => 0)) A9 V1172 nS.toNat) ∨ (1 ≤ ((i1169 : Nat) : Int) ∧ 1 ≤ z1170.toInt ∧ 0 < fm.toInt ∧ zNO (zLs (fun _ => 0) vA vD vC vU vI vW (fun _ => 0)) A9 nS))) ∧ (0 ≤ z1170.toInt ∧ z1170.toInt ≤ ((i1169 : Nat) : Int)) ∧ (((i1169 : Nat) : Int) = 0 ∨ ((i1169 : Nat) : Int) ≤ p0.toInt)) → ∀ (H : Heap) (locs : List Loc), gH (dC, dI) kA (SHc nC nS) G H → gF (dC, dI) SKc G ([(3, 15), (10, 7), (50, 0), (54, 0), (56, 0), (57, 0)] : List (Nat × Nat)) s.heap H → (i1169 = 0 → gF (dC, dI) SKc G ([(3, 15), (50, 0), (56, 0), (57, 0)] : List (Nat × Nat)) s.heap H) → va_S A s.heap H locs → ct H mk9 60 V1172 → ct H hd9 30 V1174 → ct H kn 20 vK → ct H sf 20 vF → ct H sto 20 vT → ct H stp9 400 vS → el H o0 (dI 3 6) = some (.ref mk9) → el H o0 (dI 3 3) = some (.ref hd9) → el H o0 (dI 3 0) = some (.ref sA) → el H o0 (dI 3 16) = some (.int fm) → el H o0 (dI 3 5) = some (.ref fa9) → el H o0 (dI 3 15) = some (.int hv0) → el H o0 (dI 3 7) = some (.ref lw) → el H lw (dI 7 2) = some (.ref kn) → el H lw (dI 7 11) = some (.int ln) → el H lw (dI 7 7) = some (.ref sf) → el H lw (dI 7 8) = some (.ref sto) → el H lw (dI 7 9) = some (.ref stp9) → el H lw (dI 7 10) = some (.ref stk) → el H o0 (dI 3 14) = some (.int x1166) → ∀ ls : Array Slot, lv_has ls 7 [(4, .int (nI i1169)), (3, .int z1170), (0, .ref o0), (1, .int p0), (2, .ref p1)] → W p l e (headSpec w_c_giveFarmsZ ({ frames := 5, cells := 0, slots := 0, locals := 135 })).room s m #[.ref o0, .int p0, .ref p1] below meth c H locs 0 0 (MQ below (va_Qi (fun (r : Int32) (u : Int32 × (Nat → Int32)) => match u with | (hl1, vh1) => (0 ≤ r.toInt ∧ r.toInt ≤ 60) ∧ ((0 < r.toInt ∧ ((1 ≤ p0.toInt ∧ p0.toInt ≤ 60) ∧ 0 < fm.toInt ∧ zNO (zLs (fun _ => 0) vA vD vC vU vI vW (fun _ => 0)) A9 nS)) ∨ (r.toInt = 0 ∧ ¬ ((1 ≤ p0.toInt ∧ p0.toInt ≤ 60) ∧ 0 < fm.toInt ∧ zNO (zLs (fun _ => 0) vA vD vC vU vI vW (fun _ => 0)) A9 nS) ∧ vh = vh1)) ∧ (hl1.toInt = r.toInt ∧ zct vh1 30 = hl1.toInt)) (fun (u : Int32 × (Nat → Int32)) (t : State) => match u with | (hl1, vh1) => gH (dC, dI) kA (SHc nC nS) G t.heap ∧ gF (dC, dI) SKc G ([(3, 15), (10, 7), (50, 0), (54, 0), (56, 0), (57, 0)] : List (Nat × Nat)) s.heap t.heap ∧ el t.heap o0 (dI 3 15) = some (.int hl1) ∧ ct t.heap hd9 30 vh1 ∧ (hl1 = 0 → gF (dC, dI) SKc G ([(3, 15), (50, 0), (56, 0), (57, 0)] : List (Nat × Nat)) s.heap t.heap)) A) #[.ref o0, .int p0, .ref p1] s 0 0 A) (F0 m 81 ls []) := by
        intro n1620
        induction n1620 with
        | zero =>
          intro i1169 hn1620 hlo1621 z1170 V1172 V1174 ⟨h1171, hj1194, hj1195, hj1196⟩ H locs hT hF hF3 hS m1173 m1175 m1176 m1177 m1178 m1179 m1180 m1181 m1182 m1183 m1184 m1185 m1186 m1187 m1188 m1189 m1190 m1191 m1192 m1193 ls hl
          obtain rfl : 60 = i1169 := by omega
          refine lv_iload hx hb dX0_giveFarms_81 (lv_at hl 0 rfl) ?_
          refine lv_iload_n hx hb dX0_giveFarms_83 rfl (lv_at hl 3 rfl) ?_
          refine lv_icmp_ge (tgt := 155) hx hb dX0_giveFarms_84 (by decide) (fun c1622 => ?_) (fun c1622 => (by exfalso; have q9 : ((60 : Nat) : Int) < p0.toInt := ti_nle c1622 rfl (nI_toInt (by omega)); omega))
          have t1623 : p0.toInt ≤ ((60 : Nat) : Int) := ti_le c1622 rfl (nI_toInt (by omega))
          obtain ⟨hct1631, hj1194x⟩ := hj1194
          rcases hj1194x with ⟨ha1624, ha1625, rfl, hpm1626⟩ | ⟨hb1627, hb1628, hfm1629, hno1630⟩
          · have hF2 := hF3 (by omega)
            refine lv_aload_n hx hb dX0_giveFarms_155 rfl (lv_at hl 2 rfl) ?_
            refine lv_dup hx hb dX0_giveFarms_156 rfl ?_
            refine tw_getM (v := .int hv0) hx hb hts bF2_X0 hown hK hT hr_o0 shc_3 rfl 15 (by decide) (ht_at2 hts 1 rfl) (fun _ h9 => h9) m1185 dX0_giveFarms_157 ?_
            refine lv_iload_n hx hb dX0_giveFarms_160 rfl (lv_at hl 1 rfl) ?_
            refine lv_iadd hx hb dX0_giveFarms_161 ?_
            refine lv_topi (fun x1632 ex1632 => ?_)
            have t1633 : x1632.toInt = hv0.toInt + z1170.toInt := ti_add ex1632 rfl rfl (by omega) (by omega)
            refine tw_put (v := .int x1632) (ty := .int) hx hb hts bF2_X0 tyX0 tyX0_ok nmX0 hown hK hT hG hS hr_o0 shc_3 rfl 15 (by decide) (ht_at2 hts 1 rfl) (fun _ h9 => h9) rfl (by decide +kernel) rfl rfl (gl_at rfl (gi_all _)) dX0_giveFarms_162 (fun H locs hT oq m1634 oj hS => ?_)
            have hF := hF.put hr_o0 skc_3 oq oj (by decide)
            have hF2 := hF2.put hr_o0 skc_3 oq oj (by decide)
            have m1636 := m1175.kept (oq _ (gne hr_hd9 hr_o0 (by decide)))
            refine lv_iload_n hx hb dX0_giveFarms_165 rfl (lv_at hl 1 rfl) ?_
            exact W.iret (v := z1170) hx hb hr (fun t ht hW => ⟨⟨z1170, (x1632, vh), rfl, (by exact ⟨(by have q8 := ti_all z1170; omega), (by have r9 := (show z1170.toInt = z1170.toInt from rfl); exact Or.inr ⟨by omega, fun h8 => by have := h8.1; omega, rfl⟩), (by have := (show x1632.toInt = x1632.toInt from rfl); have := (show z1170.toInt = z1170.toInt from rfl); have := hct1631; exact ⟨by omega, by omega⟩)⟩), by (try dsimp only); rw [ht]; exact ⟨hT, hF, m1634, m1636, (fun _ => hF2)⟩⟩, hS.F ht⟩) hS.2.2 dX0_giveFarms_166
          · refine lv_aload_n hx hb dX0_giveFarms_155 rfl (lv_at hl 2 rfl) ?_
            refine lv_dup hx hb dX0_giveFarms_156 rfl ?_
            refine tw_getM (v := .int hv0) hx hb hts bF2_X0 hown hK hT hr_o0 shc_3 rfl 15 (by decide) (ht_at2 hts 1 rfl) (fun _ h9 => h9) m1185 dX0_giveFarms_157 ?_
            refine lv_iload_n hx hb dX0_giveFarms_160 rfl (lv_at hl 1 rfl) ?_
            refine lv_iadd hx hb dX0_giveFarms_161 ?_
            refine lv_topi (fun x1654 ex1654 => ?_)
            have t1655 : x1654.toInt = hv0.toInt + z1170.toInt := ti_add ex1654 rfl rfl (by omega) (by omega)
            refine tw_put (v := .int x1654) (ty := .int) hx hb hts bF2_X0 tyX0 tyX0_ok nmX0 hown hK hT hG hS hr_o0 shc_3 rfl 15 (by decide) (ht_at2 hts 1 rfl) (fun _ h9 => h9) rfl (by decide +kernel) rfl rfl (gl_at rfl (gi_all _)) dX0_giveFarms_162 (fun H locs hT oq m1656 oj hS => ?_)
            have hF := hF.put hr_o0 skc_3 oq oj (by decide)
            have m1658 := m1175.kept (oq _ (gne hr_hd9 hr_o0 (by decide)))
            refine lv_iload_n hx hb dX0_giveFarms_165 rfl (lv_at hl 1 rfl) ?_
            exact W.iret (v := z1170) hx hb hr (fun t ht hW => ⟨⟨z1170, (x1654, V1174), rfl, (by exact ⟨(by have q8 := ti_all z1170; omega), (by have r9 := (show z1170.toInt = z1170.toInt from rfl); exact Or.inl ⟨by omega, ⟨by omega, by omega⟩, hfm1629, hno1630⟩), (by have := (show x1654.toInt = x1654.toInt from rfl); have := (show z1170.toInt = z1170.toInt from rfl); have := hct1631; exact ⟨by omega, by omega⟩)⟩), by (try dsimp only); rw [ht]; exact ⟨hT, hF, m1656, m1658, (fun h9 => by exfalso; have h8 := congrArg Int32.toInt h9; have z8 : (0 : Int32).toInt = 0 := (by decide); have := (show x1654.toInt = x1654.toInt from rfl); omega)⟩⟩, hS.F ht⟩) hS.2.2 dX0_giveFarms_166
        | succ n1620 ih1620 =>
          intro i1169 hn1620 hlo1621 z1170 V1172 V1174 ⟨h1171, hj1194, hj1195, hj1196⟩ H locs hT hF hF3 hS m1173 m1175 m1176 m1177 m1178 m1179 m1180 m1181 m1182 m1183 m1184 m1185 m1186 m1187 m1188 m1189 m1190 m1191 m1192 m1193 ls hl
          have hlt1675 : i1169 < 60 := by omega
          refine lv_iload hx hb dX0_giveFarms_81 (lv_at hl 0 rfl) ?_
          refine lv_iload_n hx hb dX0_giveFarms_83 rfl (lv_at hl 3 rfl) ?_
          refine lv_icmp_ge (tgt := 155) hx hb dX0_giveFarms_84 (by decide) (fun c1676 => ?_) (fun c1676 => ?_)
          · have t1677 : p0.toInt ≤ ((i1169 : Nat) : Int) := ti_le c1676 rfl (nI_toInt (by omega))
            obtain ⟨hct1685, hj1194x⟩ := hj1194
            rcases hj1194x with ⟨ha1678, ha1679, rfl, hpm1680⟩ | ⟨hb1681, hb1682, hfm1683, hno1684⟩
            · have hF2 := hF3 (by omega)
              refine lv_aload_n hx hb dX0_giveFarms_155 rfl (lv_at hl 2 rfl) ?_
              refine lv_dup hx hb dX0_giveFarms_156 rfl ?_
              refine tw_getM (v := .int hv0) hx hb hts bF2_X0 hown hK hT hr_o0 shc_3 rfl 15 (by decide) (ht_at2 hts 1 rfl) (fun _ h9 => h9) m1185 dX0_giveFarms_157 ?_
              refine lv_iload_n hx hb dX0_giveFarms_160 rfl (lv_at hl 1 rfl) ?_
              refine lv_iadd hx hb dX0_giveFarms_161 ?_
              refine lv_topi (fun x1686 ex1686 => ?_)
              have t1687 : x1686.toInt = hv0.toInt + z1170.toInt := ti_add ex1686 rfl rfl (by omega) (by omega)
              refine tw_put (v := .int x1686) (ty := .int) hx hb hts bF2_X0 tyX0 tyX0_ok nmX0 hown hK hT hG hS hr_o0 shc_3 rfl 15 (by decide) (ht_at2 hts 1 rfl) (fun _ h9 => h9) rfl (by decide +kernel) rfl rfl (gl_at rfl (gi_all _)) dX0_giveFarms_162 (fun H locs hT oq m1688 oj hS => ?_)
              have hF := hF.put hr_o0 skc_3 oq oj (by decide)
              have hF2 := hF2.put hr_o0 skc_3 oq oj (by decide)
              have m1690 := m1175.kept (oq _ (gne hr_hd9 hr_o0 (by decide)))
              refine lv_iload_n hx hb dX0_giveFarms_165 rfl (lv_at hl 1 rfl) ?_
              exact W.iret (v := z1170) hx hb hr (fun t ht hW => ⟨⟨z1170, (x1686, vh), rfl, (by exact ⟨(by have q8 := ti_all z1170; omega), (by have r9 := (show z1170.toInt = z1170.toInt from rfl); exact Or.inr ⟨by omega, fun h8 => by have := h8.1; omega, rfl⟩), (by have := (show x1686.toInt = x1686.toInt from rfl); have := (show z1170.toInt = z1170.toInt from rfl); have := hct1685; exact ⟨by omega, by omega⟩)⟩), by (try dsimp only); rw [ht]; exact ⟨hT, hF, m1688, m1690, (fun _ => hF2)⟩⟩, hS.F ht⟩) hS.2.2 dX0_giveFarms_166
            · refine lv_aload_n hx hb dX0_giveFarms_155 rfl (lv_at hl 2 rfl) ?_
              refine lv_dup hx hb dX0_giveFarms_156 rfl ?_
              refine tw_getM (v := .int hv0) hx hb hts bF2_X0 hown hK hT hr_o0 shc_3 rfl 15 (by decide) (ht_at2 hts 1 rfl) (fun _ h9 => h9) m1185 dX0_giveFarms_157 ?_
              refine lv_iload_n hx hb dX0_giveFarms_160 rfl (lv_at hl 1 rfl) ?_
              refine lv_iadd hx hb dX0_giveFarms_161 ?_
              refine lv_topi (fun x1708 ex1708 => ?_)
              have t1709 : x1708.toInt = hv0.toInt + z1170.toInt := ti_add ex1708 rfl rfl (by omega) (by omega)
              refine tw_put (v := .int x1708) (ty := .int) hx hb hts bF2_X0 tyX0 tyX0_ok nmX0 hown hK hT hG hS hr_o0 shc_3 rfl 15 (by decide) (ht_at2 hts 1 rfl) (fun _ h9 => h9) rfl (by decide +kernel) rfl rfl (gl_at rfl (gi_all _)) dX0_giveFarms_162 (fun H locs hT oq m1710 oj hS => ?_)
              have hF := hF.put hr_o0 skc_3 oq oj (by decide)
              have m1712 := m1175.kept (oq _ (gne hr_hd9 hr_o0 (by decide)))
              refine lv_iload_n hx hb dX0_giveFarms_165 rfl (lv_at hl 1 rfl) ?_
              exact W.iret (v := z1170) hx hb hr (fun t ht hW => ⟨⟨z1170, (x1708, V1174), rfl, (by exact ⟨(by have q8 := ti_all z1170; omega), (by have r9 := (show z1170.toInt = z1170.toInt from rfl); exact Or.inl ⟨by omega, ⟨by omega, by omega⟩, hfm1683, hno1684⟩), (by have := (show x1708.toInt = x1708.toInt from rfl); have := (show z1170.toInt = z1170.toInt from rfl); have := hct1685; exact ⟨by omega, by omega⟩)⟩), by (try dsimp only); rw [ht]; exact ⟨hT, hF, m1710, m1712, (fun h9 => by exfalso; have h8 := congrArg Int32.toInt h9; have z8 : (0 : Int32).toInt = 0 := (by decide); have := (show x1708.toInt = x1708.toInt from rfl); omega)⟩⟩, hS.F ht⟩) hS.2.2 dX0_giveFarms_166
          · have t1730 : ((i1169 : Nat) : Int) < p0.toInt := ti_nle c1676 rfl (nI_toInt (by omega))
            obtain ⟨hct1738, hj1194x⟩ := hj1194
            rcases hj1194x with ⟨ha1731, ha1732, rfl, hpm1733⟩ | ⟨hb1734, hb1735, hfm1736, hno1737⟩
            · have hF2 := hF3 (by omega)
              refine lv_aload_n hx hb dX0_giveFarms_87 rfl (lv_at hl 2 rfl) ?_
              have hFc := gA_free hG hA hS
              refine va_calli (va_runV (As := []) (rest := []) ⟨hx, hb, hml, hown, hts⟩ (c_firstByMarkZ l dC dI kA adK adV G H nC nS o0 mk9 V1172 hT hr_o0 m1180 hr_mk9 m1173 (by omega) (by omega)) (cwV 0 hts (goodIn_app (goodIn_r _ [6, 7, 8, 9] rfl (by decide +kernel)) (goodIn_ca (goodIn_r _ [3, 1, 4, 5] rfl (by decide +kernel)) (bs2_in _ _))) rfl rfl rfl (by decide +kernel) ⟨(Nat.le_of_ble_eq_true rfl), (Nat.le_of_ble_eq_true rfl)⟩) ⟨fun a U g mk q => by obtain ⟨q0, q1, qK, qE⟩ := q; exact ⟨q0, q1, va_K.moved (u := U) (U := U.calling g mk a) (Vm.Alike.refl U.vm) qK, EVC.blind g mk a qE⟩, gH_rc hK hT hr_o0 shc_3 rfl, fun U hU hW => ⟨rfl, hU, va_K.moved hW.alike hK, hE.call hS hFc hU hW⟩⟩ rfl rfl hl.1 rfl (lv_room (Nat.le_of_ble_eq_true rfl)) dX0_giveFarms_88 ⟨(Nat.le_of_ble_eq_true rfl), (Nat.le_of_ble_eq_true rfl)⟩) hS (fun q _ h => hFc q h) hFc (fun r1739 u t H locs ht hvm hw1740 hB _ _ hS => ?_)
              obtain ⟨hT, hF1⟩ := hB
              rw [ht] at hT hF1
              have m1741 := m1173.kept (hF1.arr hr_mk9 skc_57 (by decide))
              have m1742 := m1175.kept (hF1.arr hr_hd9 skc_54 (by decide))
              have m1743 := m1176.kept (hF1.arr hr_kn skc_42 (by decide))
              have m1744 := m1177.kept (hF1.arr hr_sf skc_47 (by decide))
              have m1745 := m1178.kept (hF1.arr hr_sto skc_48 (by decide))
              have m1746 := m1179.kept (hF1.arr hr_stp9 skc_49 (by decide))
              have m1747 := (hF1.fld hr_o0 skc_3 (k := 6) (by decide) (by decide)).trans m1180
              have m1748 := (hF1.fld hr_o0 skc_3 (k := 3) (by decide) (by decide)).trans m1181
              have m1749 := (hF1.fld hr_o0 skc_3 (k := 0) (by decide) (by decide)).trans m1182
              have m1750 := (hF1.fld hr_o0 skc_3 (k := 16) (by decide) (by decide)).trans m1183
              have m1751 := (hF1.fld hr_o0 skc_3 (k := 5) (by decide) (by decide)).trans m1184
              have m1752 := (hF1.fld hr_o0 skc_3 (k := 15) (by decide) (by decide)).trans m1185
              have m1753 := (hF1.fld hr_o0 skc_3 (k := 7) (by decide) (by decide)).trans m1186
              have m1754 := (hF1.fld hr_lw skc_7 (k := 2) (by decide) (by decide)).trans m1187
              have m1755 := (hF1.fld hr_lw skc_7 (k := 11) (by decide) (by decide)).trans m1188
              have m1756 := (hF1.fld hr_lw skc_7 (k := 7) (by decide) (by decide)).trans m1189
              have m1757 := (hF1.fld hr_lw skc_7 (k := 8) (by decide) (by decide)).trans m1190
              have m1758 := (hF1.fld hr_lw skc_7 (k := 9) (by decide) (by decide)).trans m1191
              have m1759 := (hF1.fld hr_lw skc_7 (k := 10) (by decide) (by decide)).trans m1192
              have m1760 := (hF1.fld hr_o0 skc_3 (k := 14) (by decide) (by decide)).trans m1193
              have hF := hF.more hF1 (by decide)
              have hF2 := hF2.more hF1 (by decide)
              try dsimp only at hw1740
              obtain ⟨h1761, hf1762⟩ := hw1740
              refine lv_istore (lv' := [(5, .int r1739), (4, .int (nI i1169)), (3, .int z1170), (0, .ref o0), (1, .int p0), (2, .ref p1)]) hx hb dX0_giveFarms_91 hl (by decide) rfl (fun ls hl => ?_)
              refine lv_aload_n hx hb dX0_giveFarms_93 rfl (lv_at hl 3 rfl) ?_
              refine lv_aload_n hx hb dX0_giveFarms_94 rfl (lv_at hl 5 rfl) ?_
              refine tw_getN hx hb hts bF2_X3 hown hK hT hr_p1 shc_6 rfl 1 (by decide) (hE.nw 73 rfl) (fun _ h9 => h9) dX0_giveFarms_95 (fun v9 m1763 h9 => ?_)
              obtain ⟨b1764, rfl, hg1765⟩ := h9 _ rfl
              have hFc := gA_free hG hA hS
              refine va_calli (va_runV (As := [.ref b1764]) (rest := []) ⟨hx, hb, hml, hown, hts⟩ (c_bestFreeFarmZ l dC dI kA adK adV G H nC nS o0 b1764 hd9 fm vh hT hg1765 hr_o0 m1748 hr_hd9 m1750 (by have q8 := ti_all fm; omega) hnh m1742 (by omega) (by omega)) (cwV 1 hts (goodIn_app (goodIn_r _ [22, 23, 24, 9] rfl (by decide +kernel)) (goodIn_ca (goodIn_r _ [10, 11, 12, 13, 14, 15, 16, 17, 18, 19, 20, 21, 9] rfl (by decide +kernel)) (bs2_in _ _))) rfl rfl rfl (by decide +kernel) ⟨(Nat.le_of_ble_eq_true rfl), (Nat.le_of_ble_eq_true rfl)⟩) ⟨fun a U g mk q => by obtain ⟨q0, q1, qK, qE⟩ := q; exact ⟨q0, q1, va_K.moved (u := U) (U := U.calling g mk a) (Vm.Alike.refl U.vm) qK, EVC.blind g mk a qE⟩, gH_rc hK hT hr_o0 shc_3 rfl, fun U hU hW => ⟨rfl, hU, va_K.moved hW.alike hK, hE.call hS hFc hU hW⟩⟩ rfl rfl hl.1 rfl (lv_room (Nat.le_of_ble_eq_true rfl)) dX0_giveFarms_98 ⟨(Nat.le_of_ble_eq_true rfl), (Nat.le_of_ble_eq_true rfl)⟩) hS (fun q _ h => hFc q h) hFc (fun r1766 u t H locs ht hvm hw1767 hB _ _ hS => ?_)
              obtain ⟨hT, hF1⟩ := hB
              rw [ht] at hT hF1
              have m1768 := m1741.kept (hF1.arr hr_mk9 skc_57 (by decide))
              have m1769 := m1742.kept (hF1.arr hr_hd9 skc_54 (by decide))
              have m1770 := m1743.kept (hF1.arr hr_kn skc_42 (by decide))
              have m1771 := m1744.kept (hF1.arr hr_sf skc_47 (by decide))
              have m1772 := m1745.kept (hF1.arr hr_sto skc_48 (by decide))
              have m1773 := m1746.kept (hF1.arr hr_stp9 skc_49 (by decide))
              have m1774 := (hF1.fld hr_o0 skc_3 (k := 6) (by decide) (by decide)).trans m1747
              have m1775 := (hF1.fld hr_o0 skc_3 (k := 3) (by decide) (by decide)).trans m1748
              have m1776 := (hF1.fld hr_o0 skc_3 (k := 0) (by decide) (by decide)).trans m1749
              have m1777 := (hF1.fld hr_o0 skc_3 (k := 16) (by decide) (by decide)).trans m1750
              have m1778 := (hF1.fld hr_o0 skc_3 (k := 5) (by decide) (by decide)).trans m1751
              have m1779 := (hF1.fld hr_o0 skc_3 (k := 15) (by decide) (by decide)).trans m1752
              have m1780 := (hF1.fld hr_o0 skc_3 (k := 7) (by decide) (by decide)).trans m1753
              have m1781 := (hF1.fld hr_lw skc_7 (k := 2) (by decide) (by decide)).trans m1754
              have m1782 := (hF1.fld hr_lw skc_7 (k := 11) (by decide) (by decide)).trans m1755
              have m1783 := (hF1.fld hr_lw skc_7 (k := 7) (by decide) (by decide)).trans m1756
              have m1784 := (hF1.fld hr_lw skc_7 (k := 8) (by decide) (by decide)).trans m1757
              have m1785 := (hF1.fld hr_lw skc_7 (k := 9) (by decide) (by decide)).trans m1758
              have m1786 := (hF1.fld hr_lw skc_7 (k := 10) (by decide) (by decide)).trans m1759
              have m1787 := (hF1.fld hr_o0 skc_3 (k := 14) (by decide) (by decide)).trans m1760
              have hF := hF.more hF1 (by decide)
              have hF2 := hF2.more hF1 (by decide)
              try dsimp only at hw1767
              obtain ⟨h1789, hf1790⟩ := hw1767
              refine lv_istore (lv' := [(6, .int r1766), (5, .int r1739), (4, .int (nI i1169)), (3, .int z1170), (0, .ref o0), (1, .int p0), (2, .ref p1)]) hx hb dX0_giveFarms_101 hl (by decide) rfl (fun ls hl => ?_)
              refine lv_iload hx hb dX0_giveFarms_103 (lv_at hl 1 rfl) ?_
              refine lv_iconst (v := (-1)) hx hb dX0_giveFarms_105 (by decide) ?_
              refine lv_icmp_eq (tgt := 155) hx hb dX0_giveFarms_106 (by decide) (fun c1791 => ?_) (fun c1791 => ?_)
              · have t1792 : r1739.toInt = (-1) := ti_eq c1791 rfl (by decide)
                refine lv_aload_n hx hb dX0_giveFarms_155 rfl (lv_at hl 4 rfl) ?_
                refine lv_dup hx hb dX0_giveFarms_156 rfl ?_
                refine tw_getM (v := .int hv0) hx hb hts bF2_X0 hown hK hT hr_o0 shc_3 rfl 15 (by decide) (ht_at2 hts 1 rfl) (fun _ h9 => h9) m1779 dX0_giveFarms_157 ?_
                refine lv_iload_n hx hb dX0_giveFarms_160 rfl (lv_at hl 3 rfl) ?_
                refine lv_iadd hx hb dX0_giveFarms_161 ?_
                refine lv_topi (fun x1793 ex1793 => ?_)
                have t1794 : x1793.toInt = hv0.toInt + z1170.toInt := ti_add ex1793 rfl rfl (by omega) (by omega)
                refine tw_put (v := .int x1793) (ty := .int) hx hb hts bF2_X0 tyX0 tyX0_ok nmX0 hown hK hT hG hS hr_o0 shc_3 rfl 15 (by decide) (ht_at2 hts 1 rfl) (fun _ h9 => h9) rfl (by decide +kernel) rfl rfl (gl_at rfl (gi_all _)) dX0_giveFarms_162 (fun H locs hT oq m1795 oj hS => ?_)
                have hF := hF.put hr_o0 skc_3 oq oj (by decide)
                have hF2 := hF2.put hr_o0 skc_3 oq oj (by decide)
                have m1797 := m1769.kept (oq _ (gne hr_hd9 hr_o0 (by decide)))
                refine lv_iload_n hx hb dX0_giveFarms_165 rfl (lv_at hl 3 rfl) ?_
                exact W.iret (v := z1170) hx hb hr (fun t ht hW => ⟨⟨z1170, (x1793, vh), rfl, (by exact ⟨(by have q8 := ti_all z1170; omega), (by have r9 := (show z1170.toInt = z1170.toInt from rfl); exact Or.inr ⟨by omega, fun h8 => by have := h8.2.1; have n9 := h8.2.2; rcases hf1762 with ⟨h7, h6⟩ | ⟨h7, h6, h5⟩; (exact (hpm1733.no (by omega) h6) n9); omega, rfl⟩), (by have := (show x1793.toInt = x1793.toInt from rfl); have := (show z1170.toInt = z1170.toInt from rfl); have := hct1738; exact ⟨by omega, by omega⟩)⟩), by (try dsimp only); rw [ht]; exact ⟨hT, hF, m1795, m1797, (fun _ => hF2)⟩⟩, hS.F ht⟩) hS.2.2 dX0_giveFarms_166
              · have t1816 : r1739.toInt ≠ (-1) := ti_ne c1791 rfl (by decide)
                refine lv_iload hx hb dX0_giveFarms_109 (lv_at hl 0 rfl) ?_
                refine lv_iconst (v := (-1)) hx hb dX0_giveFarms_111 (by decide) ?_
                refine lv_icmp_ne (tgt := 118) hx hb dX0_giveFarms_112 (by decide) (fun c1817 => ?_) (fun c1817 => ?_)
                · have t1818 : r1766.toInt ≠ (-1) := ti_ne c1817 rfl (by decide)
                  refine lv_aload_n hx hb dX0_giveFarms_118 rfl (lv_at hl 4 rfl) ?_
                  refine tw_getM (v := .ref mk9) hx hb hts bF2_X0 hown hK hT hr_o0 shc_3 rfl 6 (by decide) (ht_at2 hts 3 rfl) (fun _ h9 => h9) m1774 dX0_giveFarms_119 ?_
                  refine lv_iload hx hb dX0_giveFarms_122 (lv_at hl 1 rfl) ?_
                  refine lv_iconst (v := (-1)) hx hb dX0_giveFarms_124 (by decide) ?_
                  refine tw_iast (i := r1739) (x := (-1)) hx hb hK hT hG hS hr_mk9 shc_57 rfl (vin_t (a := r1739.toInt) rfl (by omega) (by omega)) (gi_all _) dX0_giveFarms_125 (fun H locs hT oq m1819 oi hS => ?_)
                  have hF := hF.ast hr_mk9 skc_57 oq (by decide)
                  have hF2 := hF2.ast hr_mk9 skc_57 oq (by decide)
                  have m1820 := m1768.put m1819 oi
                  have m1821 := m1769.kept (oq _ (gne hr_hd9 hr_mk9 (by decide)))
                  have m1822 := m1770.kept (oq _ (gne hr_kn hr_mk9 (by decide)))
                  have m1823 := m1771.kept (oq _ (gne hr_sf hr_mk9 (by decide)))
                  have m1824 := m1772.kept (oq _ (gne hr_sto hr_mk9 (by decide)))
                  have m1825 := m1773.kept (oq _ (gne hr_stp9 hr_mk9 (by decide)))
                  have m1826 := (el_kept (oq _ (gne hr_o0 hr_mk9 (by decide)))).trans m1774
                  have m1827 := (el_kept (oq _ (gne hr_o0 hr_mk9 (by decide)))).trans m1775
                  have m1828 := (el_kept (oq _ (gne hr_o0 hr_mk9 (by decide)))).trans m1776
                  have m1829 := (el_kept (oq _ (gne hr_o0 hr_mk9 (by decide)))).trans m1777
                  have m1830 := (el_kept (oq _ (gne hr_o0 hr_mk9 (by decide)))).trans m1778
                  have m1831 := (el_kept (oq _ (gne hr_o0 hr_mk9 (by decide)))).trans m1779
                  have m1832 := (el_kept (oq _ (gne hr_o0 hr_mk9 (by decide)))).trans m1780
                  have m1833 := (el_kept (oq _ (gne hr_lw hr_mk9 (by decide)))).trans m1781
                  have m1834 := (el_kept (oq _ (gne hr_lw hr_mk9 (by decide)))).trans m1782
                  have m1835 := (el_kept (oq _ (gne hr_lw hr_mk9 (by decide)))).trans m1783
                  have m1836 := (el_kept (oq _ (gne hr_lw hr_mk9 (by decide)))).trans m1784
                  have m1837 := (el_kept (oq _ (gne hr_lw hr_mk9 (by decide)))).trans m1785
                  have m1838 := (el_kept (oq _ (gne hr_lw hr_mk9 (by decide)))).trans m1786
                  have m1839 := (el_kept (oq _ (gne hr_o0 hr_mk9 (by decide)))).trans m1787
                  refine lv_aload_n hx hb dX0_giveFarms_126 rfl (lv_at hl 4 rfl) ?_
                  refine tw_getM (v := .ref sA) hx hb hts bF2_X0 hown hK hT hr_o0 shc_3 rfl 0 (by decide) (ht_at2 hts 4 rfl) (fun _ h9 => h9) m1828 dX0_giveFarms_127 ?_
                  refine lv_iload hx hb dX0_giveFarms_130 (lv_at hl 1 rfl) ?_
                  refine tw_aald (i := r1739) hx hb hK hT hr_sA shc_51 rfl (vin_t (a := r1739.toInt) rfl (by omega) (by omega)) dX0_giveFarms_132 (fun v9 m1841 h9 => ?_)
                  obtain ⟨b1842, rfl, hg1843⟩ := (h9.1 (by have q9 := tn_of (show r1739.toInt = r1739.toInt from rfl) (by omega); omega))
                  refine lv_iload hx hb dX0_giveFarms_133 (lv_at hl 0 rfl) ?_
                  refine tw_putN (v := .int r1766) (ty := .int) hx hb hts bF2_X7 tyX7 tyX7_ok nmX7 hown hK hT hG hS hg1843 shc_10 rfl 7 (by decide) (hE.nw 61 rfl) (fun _ h9 => h9) rfl (by decide +kernel) rfl rfl (gl_at rfl (gi_of (show r1766.toInt = r1766.toInt from rfl) (by omega) (by omega))) dX0_giveFarms_135 (fun H locs hT oq m1844 oj hS => ?_)
                  have hF := hF.put hg1843 skc_10 oq oj (by decide)
                  have m1845 := m1820.kept (oq _ (gne hr_mk9 hg1843 (by decide)))
                  have m1846 := m1821.kept (oq _ (gne hr_hd9 hg1843 (by decide)))
                  have m1847 := m1822.kept (oq _ (gne hr_kn hg1843 (by decide)))
                  have m1848 := m1823.kept (oq _ (gne hr_sf hg1843 (by decide)))
                  have m1849 := m1824.kept (oq _ (gne hr_sto hg1843 (by decide)))
                  have m1850 := m1825.kept (oq _ (gne hr_stp9 hg1843 (by decide)))
                  have m1851 := (el_kept (oq _ (gne hr_o0 hg1843 (by decide)))).trans m1826
                  have m1852 := (el_kept (oq _ (gne hr_o0 hg1843 (by decide)))).trans m1827
                  have m1853 := (el_kept (oq _ (gne hr_o0 hg1843 (by decide)))).trans m1828
                  have m1854 := (el_kept (oq _ (gne hr_o0 hg1843 (by decide)))).trans m1829
                  have m1855 := (el_kept (oq _ (gne hr_o0 hg1843 (by decide)))).trans m1830
                  have m1856 := (el_kept (oq _ (gne hr_o0 hg1843 (by decide)))).trans m1831
                  have m1857 := (el_kept (oq _ (gne hr_o0 hg1843 (by decide)))).trans m1832
                  have m1858 := (el_kept (oq _ (gne hr_lw hg1843 (by decide)))).trans m1833
                  have m1859 := (el_kept (oq _ (gne hr_lw hg1843 (by decide)))).trans m1834
                  have m1860 := (el_kept (oq _ (gne hr_lw hg1843 (by decide)))).trans m1835
                  have m1861 := (el_kept (oq _ (gne hr_lw hg1843 (by decide)))).trans m1836
                  have m1862 := (el_kept (oq _ (gne hr_lw hg1843 (by decide)))).trans m1837
                  have m1863 := (el_kept (oq _ (gne hr_lw hg1843 (by decide)))).trans m1838
                  have m1864 := (el_kept (oq _ (gne hr_o0 hg1843 (by decide)))).trans m1839
                  refine lv_aload_n hx hb dX0_giveFarms_138 rfl (lv_at hl 4 rfl) ?_
                  refine tw_getM (v := .ref hd9) hx hb hts bF2_X0 hown hK hT hr_o0 shc_3 rfl 3 (by decide) (ht_at2 hts 11 rfl) (fun _ h9 => h9) m1852 dX0_giveFarms_139 ?_
                  refine lv_iload hx hb dX0_giveFarms_142 (lv_at hl 0 rfl) ?_
                  refine lv_iconst (v := 1) hx hb dX0_giveFarms_144 (by decide) ?_
                  refine tw_zast (i := r1766) (x := 1) hx hb hK hT hG hS hr_hd9 shc_54 rfl (vin_t (a := r1766.toInt) rfl (by omega) (by omega)) (gi_z (rg_t (a := 1) (by decide) (by first | decide | omega) (by first | decide | omega)) (by decide) (by decide)) dX0_giveFarms_145 (fun H locs hT oq m1868 oi hS => ?_)
                  have hF := hF.ast hr_hd9 skc_54 oq (by decide)
                  have m1869 := m1845.kept (oq _ (gne hr_mk9 hr_hd9 (by decide)))
                  have m1870 := m1846.put (show el H hd9 _ = some (.int 1) from m1868) oi
                  have m1871 := m1847.kept (oq _ (gne hr_kn hr_hd9 (by decide)))
                  have m1872 := m1848.kept (oq _ (gne hr_sf hr_hd9 (by decide)))
                  have m1873 := m1849.kept (oq _ (gne hr_sto hr_hd9 (by decide)))
                  have m1874 := m1850.kept (oq _ (gne hr_stp9 hr_hd9 (by decide)))
                  have m1875 := (el_kept (oq _ (gne hr_o0 hr_hd9 (by decide)))).trans m1851
                  have m1876 := (el_kept (oq _ (gne hr_o0 hr_hd9 (by decide)))).trans m1852
                  have m1877 := (el_kept (oq _ (gne hr_o0 hr_hd9 (by decide)))).trans m1853
                  have m1878 := (el_kept (oq _ (gne hr_o0 hr_hd9 (by decide)))).trans m1854
                  have m1879 := (el_kept (oq _ (gne hr_o0 hr_hd9 (by decide)))).trans m1855
                  have m1880 := (el_kept (oq _ (gne hr_o0 hr_hd9 (by decide)))).trans m1856
                  have m1881 := (el_kept (oq _ (gne hr_o0 hr_hd9 (by decide)))).trans m1857
                  have m1882 := (el_kept (oq _ (gne hr_lw hr_hd9 (by decide)))).trans m1858
                  have m1883 := (el_kept (oq _ (gne hr_lw hr_hd9 (by decide)))).trans m1859
                  have m1884 := (el_kept (oq _ (gne hr_lw hr_hd9 (by decide)))).trans m1860
                  have m1885 := (el_kept (oq _ (gne hr_lw hr_hd9 (by decide)))).trans m1861
                  have m1886 := (el_kept (oq _ (gne hr_lw hr_hd9 (by decide)))).trans m1862
                  have m1887 := (el_kept (oq _ (gne hr_lw hr_hd9 (by decide)))).trans m1863
                  have m1888 := (el_kept (oq _ (gne hr_o0 hr_hd9 (by decide)))).trans m1864
                  obtain ⟨x1893, ex1893⟩ : ∃ y : Int32, y = z1170 + 1 := ⟨_, rfl⟩
                  have t1894 : x1893.toInt = z1170.toInt + 1 := ti_add ex1893 rfl (by decide) (by omega) (by omega)
                  refine lv_iinc (v := x1893) (lv' := [(3, .int x1893), (6, .int r1766), (5, .int r1739), (4, .int (nI i1169)), (0, .ref o0), (1, .int p0), (2, .ref p1)]) hx hb dX0_giveFarms_146 hl (k := 3) rfl (by first | (rw [ex1893]; done) | (rw [ex1893]; rfl)) (by decide) rfl (fun ls hl => ?_)
                  refine lv_iinc (v := nI (i1169 + 1)) (lv' := [(4, .int (nI (i1169 + 1))), (3, .int x1893), (6, .int r1766), (5, .int r1739), (0, .ref o0), (1, .int p0), (2, .ref p1)]) hx hb dX0_giveFarms_149 hl (k := 3) rfl (nI_add i1169 1) (by decide) rfl (fun ls hl => ?_)
                  refine lv_goto (tgt := 81) hx hb dX0_giveFarms_152 (by decide) ?_
                  exact ih1620 (i1169 + 1) (by omega) (by omega) x1893 (cu V1172 r1739.toNatClampNeg (-1 : Int32)) (cu vh r1766.toNatClampNeg (1 : Int32)) ⟨(by have q9 := (show x1893.toInt = x1893.toInt from rfl); (try have q8 := ti_all x1893); omega), ⟨(by have := (show x1893.toInt = x1893.toInt from rfl); rw [zct_1 (by exact hnh _ (by have := tn_of (show r1766.toInt = r1766.toInt from rfl) (by omega); omega)) (by decide) 30 (by have := tn_of (show r1766.toInt = r1766.toInt from rfl) (by omega); omega)]; have := hct1738; omega), Or.inr ⟨by omega, by have := (show x1893.toInt = x1893.toInt from rfl); omega, by omega, hpm1733.yes (by omega) ((hf1762.resolve_left (fun h8 => by have := h8.1; omega)).2.2)⟩⟩, (by have := (show x1893.toInt = x1893.toInt from rfl); omega), (by omega)⟩ _ _ hT hF (fun h9 => absurd h9 (by omega)) hS m1869 m1870 m1871 m1872 m1873 m1874 m1875 m1876 m1877 m1878 m1879 m1880 m1881 m1882 m1883 m1884 m1885 m1886 m1887 m1888 ls (lv_sub hl [0, 1, 4, 5, 6] rfl)
                · have t1895 : r1766.toInt = (-1) := ti_eq c1817 rfl (by decide)
                  refine lv_goto (tgt := 155) hx hb dX0_giveFarms_115 (by decide) ?_
                  refine lv_aload_n hx hb dX0_giveFarms_155 rfl (lv_at hl 4 rfl) ?_
                  refine lv_dup hx hb dX0_giveFarms_156 rfl ?_
                  refine tw_getM (v := .int hv0) hx hb hts bF2_X0 hown hK hT hr_o0 shc_3 rfl 15 (by decide) (ht_at2 hts 1 rfl) (fun _ h9 => h9) m1779 dX0_giveFarms_157 ?_
                  refine lv_iload_n hx hb dX0_giveFarms_160 rfl (lv_at hl 3 rfl) ?_
                  refine lv_iadd hx hb dX0_giveFarms_161 ?_
                  refine lv_topi (fun x1896 ex1896 => ?_)
                  have t1897 : x1896.toInt = hv0.toInt + z1170.toInt := ti_add ex1896 rfl rfl (by omega) (by omega)
                  refine tw_put (v := .int x1896) (ty := .int) hx hb hts bF2_X0 tyX0 tyX0_ok nmX0 hown hK hT hG hS hr_o0 shc_3 rfl 15 (by decide) (ht_at2 hts 1 rfl) (fun _ h9 => h9) rfl (by decide +kernel) rfl rfl (gl_at rfl (gi_all _)) dX0_giveFarms_162 (fun H locs hT oq m1898 oj hS => ?_)
                  have hF := hF.put hr_o0 skc_3 oq oj (by decide)
                  have hF2 := hF2.put hr_o0 skc_3 oq oj (by decide)
                  have m1900 := m1769.kept (oq _ (gne hr_hd9 hr_o0 (by decide)))
                  refine lv_iload_n hx hb dX0_giveFarms_165 rfl (lv_at hl 3 rfl) ?_
                  exact W.iret (v := z1170) hx hb hr (fun t ht hW => ⟨⟨z1170, (x1896, vh), rfl, (by exact ⟨(by have q8 := ti_all z1170; omega), (by have r9 := (show z1170.toInt = z1170.toInt from rfl); exact Or.inr ⟨by omega, fun h8 => by have := h8.2.1; have n9 := h8.2.2; rcases hf1762 with ⟨h7, h6⟩ | ⟨h7, h6, h5⟩; (exact (hpm1733.no (by omega) h6) n9); omega, rfl⟩), (by have := (show x1896.toInt = x1896.toInt from rfl); have := (show z1170.toInt = z1170.toInt from rfl); have := hct1738; exact ⟨by omega, by omega⟩)⟩), by (try dsimp only); rw [ht]; exact ⟨hT, hF, m1898, m1900, (fun _ => hF2)⟩⟩, hS.F ht⟩) hS.2.2 dX0_giveFarms_166
            · refine lv_aload_n hx hb dX0_giveFarms_87 rfl (lv_at hl 2 rfl) ?_
              have hFc := gA_free hG hA hS
              refine va_calli (va_runV (As := []) (rest := []) ⟨hx, hb, hml, hown, hts⟩ (c_firstByMark l dC dI kA adK adV G H nC nS o0 hT hr_o0 (by omega) (by omega)) (cwV 0 hts (goodIn_app (goodIn_r _ [6, 7, 8, 9] rfl (by decide +kernel)) (goodIn_ca (goodIn_r _ [3, 1, 4, 5] rfl (by decide +kernel)) (bs2_in _ _))) rfl rfl rfl (by decide +kernel) ⟨(Nat.le_of_ble_eq_true rfl), (Nat.le_of_ble_eq_true rfl)⟩) ⟨fun a U g mk q => by obtain ⟨q0, q1, qK, qE⟩ := q; exact ⟨q0, q1, va_K.moved (u := U) (U := U.calling g mk a) (Vm.Alike.refl U.vm) qK, EVC.blind g mk a qE⟩, gH_rc hK hT hr_o0 shc_3 rfl, fun U hU hW => ⟨rfl, hU, va_K.moved hW.alike hK, hE.call hS hFc hU hW⟩⟩ rfl rfl hl.1 rfl (lv_room (Nat.le_of_ble_eq_true rfl)) dX0_giveFarms_88 ⟨(Nat.le_of_ble_eq_true rfl), (Nat.le_of_ble_eq_true rfl)⟩) hS (fun q _ h => hFc q h) hFc (fun r1919 u t H locs ht hvm hw1920 hB _ _ hS => ?_)
              obtain ⟨hT, hF1⟩ := hB
              rw [ht] at hT hF1
              have m1921 := m1173.kept (hF1.arr hr_mk9 skc_57 (by decide))
              have m1922 := m1175.kept (hF1.arr hr_hd9 skc_54 (by decide))
              have m1923 := m1176.kept (hF1.arr hr_kn skc_42 (by decide))
              have m1924 := m1177.kept (hF1.arr hr_sf skc_47 (by decide))
              have m1925 := m1178.kept (hF1.arr hr_sto skc_48 (by decide))
              have m1926 := m1179.kept (hF1.arr hr_stp9 skc_49 (by decide))
              have m1927 := (hF1.fld hr_o0 skc_3 (k := 6) (by decide) (by decide)).trans m1180
              have m1928 := (hF1.fld hr_o0 skc_3 (k := 3) (by decide) (by decide)).trans m1181
              have m1929 := (hF1.fld hr_o0 skc_3 (k := 0) (by decide) (by decide)).trans m1182
              have m1930 := (hF1.fld hr_o0 skc_3 (k := 16) (by decide) (by decide)).trans m1183
              have m1931 := (hF1.fld hr_o0 skc_3 (k := 5) (by decide) (by decide)).trans m1184
              have m1932 := (hF1.fld hr_o0 skc_3 (k := 15) (by decide) (by decide)).trans m1185
              have m1933 := (hF1.fld hr_o0 skc_3 (k := 7) (by decide) (by decide)).trans m1186
              have m1934 := (hF1.fld hr_lw skc_7 (k := 2) (by decide) (by decide)).trans m1187
              have m1935 := (hF1.fld hr_lw skc_7 (k := 11) (by decide) (by decide)).trans m1188
              have m1936 := (hF1.fld hr_lw skc_7 (k := 7) (by decide) (by decide)).trans m1189
              have m1937 := (hF1.fld hr_lw skc_7 (k := 8) (by decide) (by decide)).trans m1190
              have m1938 := (hF1.fld hr_lw skc_7 (k := 9) (by decide) (by decide)).trans m1191
              have m1939 := (hF1.fld hr_lw skc_7 (k := 10) (by decide) (by decide)).trans m1192
              have m1940 := (hF1.fld hr_o0 skc_3 (k := 14) (by decide) (by decide)).trans m1193
              have hF := hF.more hF1 (by decide)
              try dsimp only at hw1920
              obtain ⟨h1941, hf1942⟩ := hw1920
              refine lv_istore (lv' := [(5, .int r1919), (4, .int (nI i1169)), (3, .int z1170), (0, .ref o0), (1, .int p0), (2, .ref p1)]) hx hb dX0_giveFarms_91 hl (by decide) rfl (fun ls hl => ?_)
              refine lv_aload_n hx hb dX0_giveFarms_93 rfl (lv_at hl 3 rfl) ?_
              refine lv_aload_n hx hb dX0_giveFarms_94 rfl (lv_at hl 5 rfl) ?_
              refine tw_getN hx hb hts bF2_X3 hown hK hT hr_p1 shc_6 rfl 1 (by decide) (hE.nw 73 rfl) (fun _ h9 => h9) dX0_giveFarms_95 (fun v9 m1943 h9 => ?_)
              obtain ⟨b1944, rfl, hg1945⟩ := h9 _ rfl
              have hFc := gA_free hG hA hS
              refine va_calli (va_runV (As := [.ref b1944]) (rest := []) ⟨hx, hb, hml, hown, hts⟩ (c_bestFreeFarmH l dC dI kA adK adV G H nC nS o0 b1944 hd9 V1174 hT hg1945 hr_o0 m1928 hr_hd9 m1922 (by omega) (by omega)) (cwV 1 hts (goodIn_app (goodIn_r _ [22, 23, 24, 9] rfl (by decide +kernel)) (goodIn_ca (goodIn_r _ [10, 11, 12, 13, 14, 15, 16, 17, 18, 19, 20, 21, 9] rfl (by decide +kernel)) (bs2_in _ _))) rfl rfl rfl (by decide +kernel) ⟨(Nat.le_of_ble_eq_true rfl), (Nat.le_of_ble_eq_true rfl)⟩) ⟨fun a U g mk q => by obtain ⟨q0, q1, qK, qE⟩ := q; exact ⟨q0, q1, va_K.moved (u := U) (U := U.calling g mk a) (Vm.Alike.refl U.vm) qK, EVC.blind g mk a qE⟩, gH_rc hK hT hr_o0 shc_3 rfl, fun U hU hW => ⟨rfl, hU, va_K.moved hW.alike hK, hE.call hS hFc hU hW⟩⟩ rfl rfl hl.1 rfl (lv_room (Nat.le_of_ble_eq_true rfl)) dX0_giveFarms_98 ⟨(Nat.le_of_ble_eq_true rfl), (Nat.le_of_ble_eq_true rfl)⟩) hS (fun q _ h => hFc q h) hFc (fun r1946 u t H locs ht hvm hw1947 hB _ _ hS => ?_)
              obtain ⟨hT, hF1⟩ := hB
              rw [ht] at hT hF1
              have m1948 := m1921.kept (hF1.arr hr_mk9 skc_57 (by decide))
              have m1949 := m1922.kept (hF1.arr hr_hd9 skc_54 (by decide))
              have m1950 := m1923.kept (hF1.arr hr_kn skc_42 (by decide))
              have m1951 := m1924.kept (hF1.arr hr_sf skc_47 (by decide))
              have m1952 := m1925.kept (hF1.arr hr_sto skc_48 (by decide))
              have m1953 := m1926.kept (hF1.arr hr_stp9 skc_49 (by decide))
              have m1954 := (hF1.fld hr_o0 skc_3 (k := 6) (by decide) (by decide)).trans m1927
              have m1955 := (hF1.fld hr_o0 skc_3 (k := 3) (by decide) (by decide)).trans m1928
              have m1956 := (hF1.fld hr_o0 skc_3 (k := 0) (by decide) (by decide)).trans m1929
              have m1957 := (hF1.fld hr_o0 skc_3 (k := 16) (by decide) (by decide)).trans m1930
              have m1958 := (hF1.fld hr_o0 skc_3 (k := 5) (by decide) (by decide)).trans m1931
              have m1959 := (hF1.fld hr_o0 skc_3 (k := 15) (by decide) (by decide)).trans m1932
              have m1960 := (hF1.fld hr_o0 skc_3 (k := 7) (by decide) (by decide)).trans m1933
              have m1961 := (hF1.fld hr_lw skc_7 (k := 2) (by decide) (by decide)).trans m1934
              have m1962 := (hF1.fld hr_lw skc_7 (k := 11) (by decide) (by decide)).trans m1935
              have m1963 := (hF1.fld hr_lw skc_7 (k := 7) (by decide) (by decide)).trans m1936
              have m1964 := (hF1.fld hr_lw skc_7 (k := 8) (by decide) (by decide)).trans m1937
              have m1965 := (hF1.fld hr_lw skc_7 (k := 9) (by decide) (by decide)).trans m1938
              have m1966 := (hF1.fld hr_lw skc_7 (k := 10) (by decide) (by decide)).trans m1939
              have m1967 := (hF1.fld hr_o0 skc_3 (k := 14) (by decide) (by decide)).trans m1940
              have hF := hF.more hF1 (by decide)
              try dsimp only at hw1947
              obtain ⟨h1969, hf1970⟩ := hw1947
              refine lv_istore (lv' := [(6, .int r1946), (5, .int r1919), (4, .int (nI i1169)), (3, .int z1170), (0, .ref o0), (1, .int p0), (2, .ref p1)]) hx hb dX0_giveFarms_101 hl (by decide) rfl (fun ls hl => ?_)
              refine lv_iload hx hb dX0_giveFarms_103 (lv_at hl 1 rfl) ?_
              refine lv_iconst (v := (-1)) hx hb dX0_giveFarms_105 (by decide) ?_
              refine lv_icmp_eq (tgt := 155) hx hb dX0_giveFarms_106 (by decide) (fun c1971 => ?_) (fun c1971 => ?_)
              · have t1972 : r1919.toInt = (-1) := ti_eq c1971 rfl (by decide)
                refine lv_aload_n hx hb dX0_giveFarms_155 rfl (lv_at hl 4 rfl) ?_
                refine lv_dup hx hb dX0_giveFarms_156 rfl ?_
                refine tw_getM (v := .int hv0) hx hb hts bF2_X0 hown hK hT hr_o0 shc_3 rfl 15 (by decide) (ht_at2 hts 1 rfl) (fun _ h9 => h9) m1959 dX0_giveFarms_157 ?_
                refine lv_iload_n hx hb dX0_giveFarms_160 rfl (lv_at hl 3 rfl) ?_
                refine lv_iadd hx hb dX0_giveFarms_161 ?_
                refine lv_topi (fun x1973 ex1973 => ?_)
                have t1974 : x1973.toInt = hv0.toInt + z1170.toInt := ti_add ex1973 rfl rfl (by omega) (by omega)
                refine tw_put (v := .int x1973) (ty := .int) hx hb hts bF2_X0 tyX0 tyX0_ok nmX0 hown hK hT hG hS hr_o0 shc_3 rfl 15 (by decide) (ht_at2 hts 1 rfl) (fun _ h9 => h9) rfl (by decide +kernel) rfl rfl (gl_at rfl (gi_all _)) dX0_giveFarms_162 (fun H locs hT oq m1975 oj hS => ?_)
                have hF := hF.put hr_o0 skc_3 oq oj (by decide)
                have m1977 := m1949.kept (oq _ (gne hr_hd9 hr_o0 (by decide)))
                refine lv_iload_n hx hb dX0_giveFarms_165 rfl (lv_at hl 3 rfl) ?_
                exact W.iret (v := z1170) hx hb hr (fun t ht hW => ⟨⟨z1170, (x1973, V1174), rfl, (by exact ⟨(by have q8 := ti_all z1170; omega), (by have r9 := (show z1170.toInt = z1170.toInt from rfl); exact Or.inl ⟨by omega, ⟨by omega, by omega⟩, hfm1736, hno1737⟩), (by have := (show x1973.toInt = x1973.toInt from rfl); have := (show z1170.toInt = z1170.toInt from rfl); have := hct1738; exact ⟨by omega, by omega⟩)⟩), by (try dsimp only); rw [ht]; exact ⟨hT, hF, m1975, m1977, (fun h9 => by exfalso; have h8 := congrArg Int32.toInt h9; have z8 : (0 : Int32).toInt = 0 := (by decide); have := (show x1973.toInt = x1973.toInt from rfl); omega)⟩⟩, hS.F ht⟩) hS.2.2 dX0_giveFarms_166
              · have t1996 : r1919.toInt ≠ (-1) := ti_ne c1971 rfl (by decide)
                refine lv_iload hx hb dX0_giveFarms_109 (lv_at hl 0 rfl) ?_
                refine lv_iconst (v := (-1)) hx hb dX0_giveFarms_111 (by decide) ?_
                refine lv_icmp_ne (tgt := 118) hx hb dX0_giveFarms_112 (by decide) (fun c1997 => ?_) (fun c1997 => ?_)
                · have t1998 : r1946.toInt ≠ (-1) := ti_ne c1997 rfl (by decide)
                  refine lv_aload_n hx hb dX0_giveFarms_118 rfl (lv_at hl 4 rfl) ?_
                  refine tw_getM (v := .ref mk9) hx hb hts bF2_X0 hown hK hT hr_o0 shc_3 rfl 6 (by decide) (ht_at2 hts 3 rfl) (fun _ h9 => h9) m1954 dX0_giveFarms_119 ?_
                  refine lv_iload hx hb dX0_giveFarms_122 (lv_at hl 1 rfl) ?_
                  refine lv_iconst (v := (-1)) hx hb dX0_giveFarms_124 (by decide) ?_
                  refine tw_iast (i := r1919) (x := (-1)) hx hb hK hT hG hS hr_mk9 shc_57 rfl (vin_t (a := r1919.toInt) rfl (by omega) (by omega)) (gi_all _) dX0_giveFarms_125 (fun H locs hT oq m1999 oi hS => ?_)
                  have hF := hF.ast hr_mk9 skc_57 oq (by decide)
                  have m2000 := m1948.put m1999 oi
                  have m2001 := m1949.kept (oq _ (gne hr_hd9 hr_mk9 (by decide)))
                  have m2002 := m1950.kept (oq _ (gne hr_kn hr_mk9 (by decide)))
                  have m2003 := m1951.kept (oq _ (gne hr_sf hr_mk9 (by decide)))
                  have m2004 := m1952.kept (oq _ (gne hr_sto hr_mk9 (by decide)))
                  have m2005 := m1953.kept (oq _ (gne hr_stp9 hr_mk9 (by decide)))
                  have m2006 := (el_kept (oq _ (gne hr_o0 hr_mk9 (by decide)))).trans m1954
                  have m2007 := (el_kept (oq _ (gne hr_o0 hr_mk9 (by decide)))).trans m1955
                  have m2008 := (el_kept (oq _ (gne hr_o0 hr_mk9 (by decide)))).trans m1956
                  have m2009 := (el_kept (oq _ (gne hr_o0 hr_mk9 (by decide)))).trans m1957
                  have m2010 := (el_kept (oq _ (gne hr_o0 hr_mk9 (by decide)))).trans m1958
                  have m2011 := (el_kept (oq _ (gne hr_o0 hr_mk9 (by decide)))).trans m1959
                  have m2012 := (el_kept (oq _ (gne hr_o0 hr_mk9 (by decide)))).trans m1960
                  have m2013 := (el_kept (oq _ (gne hr_lw hr_mk9 (by decide)))).trans m1961
                  have m2014 := (el_kept (oq _ (gne hr_lw hr_mk9 (by decide)))).trans m1962
                  have m2015 := (el_kept (oq _ (gne hr_lw hr_mk9 (by decide)))).trans m1963
                  have m2016 := (el_kept (oq _ (gne hr_lw hr_mk9 (by decide)))).trans m1964
                  have m2017 := (el_kept (oq _ (gne hr_lw hr_mk9 (by decide)))).trans m1965
                  have m2018 := (el_kept (oq _ (gne hr_lw hr_mk9 (by decide)))).trans m1966
                  have m2019 := (el_kept (oq _ (gne hr_o0 hr_mk9 (by decide)))).trans m1967
                  refine lv_aload_n hx hb dX0_giveFarms_126 rfl (lv_at hl 4 rfl) ?_
                  refine tw_getM (v := .ref sA) hx hb hts bF2_X0 hown hK hT hr_o0 shc_3 rfl 0 (by decide) (ht_at2 hts 4 rfl) (fun _ h9 => h9) m2008 dX0_giveFarms_127 ?_
                  refine lv_iload hx hb dX0_giveFarms_130 (lv_at hl 1 rfl) ?_
                  refine tw_aald (i := r1919) hx hb hK hT hr_sA shc_51 rfl (vin_t (a := r1919.toInt) rfl (by omega) (by omega)) dX0_giveFarms_132 (fun v9 m2021 h9 => ?_)
                  obtain ⟨b2022, rfl, hg2023⟩ := (h9.1 (by have q9 := tn_of (show r1919.toInt = r1919.toInt from rfl) (by omega); omega))
                  refine lv_iload hx hb dX0_giveFarms_133 (lv_at hl 0 rfl) ?_
                  refine tw_putN (v := .int r1946) (ty := .int) hx hb hts bF2_X7 tyX7 tyX7_ok nmX7 hown hK hT hG hS hg2023 shc_10 rfl 7 (by decide) (hE.nw 61 rfl) (fun _ h9 => h9) rfl (by decide +kernel) rfl rfl (gl_at rfl (gi_of (show r1946.toInt = r1946.toInt from rfl) (by omega) (by omega))) dX0_giveFarms_135 (fun H locs hT oq m2024 oj hS => ?_)
                  have hF := hF.put hg2023 skc_10 oq oj (by decide)
                  have m2025 := m2000.kept (oq _ (gne hr_mk9 hg2023 (by decide)))
                  have m2026 := m2001.kept (oq _ (gne hr_hd9 hg2023 (by decide)))
                  have m2027 := m2002.kept (oq _ (gne hr_kn hg2023 (by decide)))
                  have m2028 := m2003.kept (oq _ (gne hr_sf hg2023 (by decide)))
                  have m2029 := m2004.kept (oq _ (gne hr_sto hg2023 (by decide)))
                  have m2030 := m2005.kept (oq _ (gne hr_stp9 hg2023 (by decide)))
                  have m2031 := (el_kept (oq _ (gne hr_o0 hg2023 (by decide)))).trans m2006
                  have m2032 := (el_kept (oq _ (gne hr_o0 hg2023 (by decide)))).trans m2007
                  have m2033 := (el_kept (oq _ (gne hr_o0 hg2023 (by decide)))).trans m2008
                  have m2034 := (el_kept (oq _ (gne hr_o0 hg2023 (by decide)))).trans m2009
                  have m2035 := (el_kept (oq _ (gne hr_o0 hg2023 (by decide)))).trans m2010
                  have m2036 := (el_kept (oq _ (gne hr_o0 hg2023 (by decide)))).trans m2011
                  have m2037 := (el_kept (oq _ (gne hr_o0 hg2023 (by decide)))).trans m2012
                  have m2038 := (el_kept (oq _ (gne hr_lw hg2023 (by decide)))).trans m2013
                  have m2039 := (el_kept (oq _ (gne hr_lw hg2023 (by decide)))).trans m2014
                  have m2040 := (el_kept (oq _ (gne hr_lw hg2023 (by decide)))).trans m2015
                  have m2041 := (el_kept (oq _ (gne hr_lw hg2023 (by decide)))).trans m2016
                  have m2042 := (el_kept (oq _ (gne hr_lw hg2023 (by decide)))).trans m2017
                  have m2043 := (el_kept (oq _ (gne hr_lw hg2023 (by decide)))).trans m2018
                  have m2044 := (el_kept (oq _ (gne hr_o0 hg2023 (by decide)))).trans m2019
                  refine lv_aload_n hx hb dX0_giveFarms_138 rfl (lv_at hl 4 rfl) ?_
                  refine tw_getM (v := .ref hd9) hx hb hts bF2_X0 hown hK hT hr_o0 shc_3 rfl 3 (by decide) (ht_at2 hts 11 rfl) (fun _ h9 => h9) m2032 dX0_giveFarms_139 ?_
                  refine lv_iload hx hb dX0_giveFarms_142 (lv_at hl 0 rfl) ?_
                  refine lv_iconst (v := 1) hx hb dX0_giveFarms_144 (by decide) ?_
                  refine tw_zast (i := r1946) (x := 1) hx hb hK hT hG hS hr_hd9 shc_54 rfl (vin_t (a := r1946.toInt) rfl (by omega) (by omega)) (gi_z (rg_t (a := 1) (by decide) (by first | decide | omega) (by first | decide | omega)) (by decide) (by decide)) dX0_giveFarms_145 (fun H locs hT oq m2048 oi hS => ?_)
                  have hF := hF.ast hr_hd9 skc_54 oq (by decide)
                  have m2049 := m2025.kept (oq _ (gne hr_mk9 hr_hd9 (by decide)))
                  have m2050 := m2026.put (show el H hd9 _ = some (.int 1) from m2048) oi
                  have m2051 := m2027.kept (oq _ (gne hr_kn hr_hd9 (by decide)))
                  have m2052 := m2028.kept (oq _ (gne hr_sf hr_hd9 (by decide)))
                  have m2053 := m2029.kept (oq _ (gne hr_sto hr_hd9 (by decide)))
                  have m2054 := m2030.kept (oq _ (gne hr_stp9 hr_hd9 (by decide)))
                  have m2055 := (el_kept (oq _ (gne hr_o0 hr_hd9 (by decide)))).trans m2031
                  have m2056 := (el_kept (oq _ (gne hr_o0 hr_hd9 (by decide)))).trans m2032
                  have m2057 := (el_kept (oq _ (gne hr_o0 hr_hd9 (by decide)))).trans m2033
                  have m2058 := (el_kept (oq _ (gne hr_o0 hr_hd9 (by decide)))).trans m2034
                  have m2059 := (el_kept (oq _ (gne hr_o0 hr_hd9 (by decide)))).trans m2035
                  have m2060 := (el_kept (oq _ (gne hr_o0 hr_hd9 (by decide)))).trans m2036
                  have m2061 := (el_kept (oq _ (gne hr_o0 hr_hd9 (by decide)))).trans m2037
                  have m2062 := (el_kept (oq _ (gne hr_lw hr_hd9 (by decide)))).trans m2038
                  have m2063 := (el_kept (oq _ (gne hr_lw hr_hd9 (by decide)))).trans m2039
                  have m2064 := (el_kept (oq _ (gne hr_lw hr_hd9 (by decide)))).trans m2040
                  have m2065 := (el_kept (oq _ (gne hr_lw hr_hd9 (by decide)))).trans m2041
                  have m2066 := (el_kept (oq _ (gne hr_lw hr_hd9 (by decide)))).trans m2042
                  have m2067 := (el_kept (oq _ (gne hr_lw hr_hd9 (by decide)))).trans m2043
                  have m2068 := (el_kept (oq _ (gne hr_o0 hr_hd9 (by decide)))).trans m2044
                  obtain ⟨x2073, ex2073⟩ : ∃ y : Int32, y = z1170 + 1 := ⟨_, rfl⟩
                  have t2074 : x2073.toInt = z1170.toInt + 1 := ti_add ex2073 rfl (by decide) (by omega) (by omega)
                  refine lv_iinc (v := x2073) (lv' := [(3, .int x2073), (6, .int r1946), (5, .int r1919), (4, .int (nI i1169)), (0, .ref o0), (1, .int p0), (2, .ref p1)]) hx hb dX0_giveFarms_146 hl (k := 3) rfl (by first | (rw [ex2073]; done) | (rw [ex2073]; rfl)) (by decide) rfl (fun ls hl => ?_)
                  refine lv_iinc (v := nI (i1169 + 1)) (lv' := [(4, .int (nI (i1169 + 1))), (3, .int x2073), (6, .int r1946), (5, .int r1919), (0, .ref o0), (1, .int p0), (2, .ref p1)]) hx hb dX0_giveFarms_149 hl (k := 3) rfl (nI_add i1169 1) (by decide) rfl (fun ls hl => ?_)
                  refine lv_goto (tgt := 81) hx hb dX0_giveFarms_152 (by decide) ?_
                  exact ih1620 (i1169 + 1) (by omega) (by omega) x2073 (cu V1172 r1919.toNatClampNeg (-1 : Int32)) (cu V1174 r1946.toNatClampNeg (1 : Int32)) ⟨(by have q9 := (show x2073.toInt = x2073.toInt from rfl); (try have q8 := ti_all x2073); omega), ⟨(by have := (show x2073.toInt = x2073.toInt from rfl); rw [zct_1 (by exact (hf1970.resolve_left (fun h8 => by omega)).2.2) (by decide) 30 (by have := tn_of (show r1946.toInt = r1946.toInt from rfl) (by omega); omega)]; have := hct1738; omega), Or.inr ⟨by omega, by have := (show x2073.toInt = x2073.toInt from rfl); omega, hfm1736, hno1737⟩⟩, (by have := (show x2073.toInt = x2073.toInt from rfl); omega), (by omega)⟩ _ _ hT hF (fun h9 => absurd h9 (by omega)) hS m2049 m2050 m2051 m2052 m2053 m2054 m2055 m2056 m2057 m2058 m2059 m2060 m2061 m2062 m2063 m2064 m2065 m2066 m2067 m2068 ls (lv_sub hl [0, 1, 4, 5, 6] rfl)
                · have t2075 : r1946.toInt = (-1) := ti_eq c1997 rfl (by decide)
                  refine lv_goto (tgt := 155) hx hb dX0_giveFarms_115 (by decide) ?_
                  refine lv_aload_n hx hb dX0_giveFarms_155 rfl (lv_at hl 4 rfl) ?_
                  refine lv_dup hx hb dX0_giveFarms_156 rfl ?_
                  refine tw_getM (v := .int hv0) hx hb hts bF2_X0 hown hK hT hr_o0 shc_3 rfl 15 (by decide) (ht_at2 hts 1 rfl) (fun _ h9 => h9) m1959 dX0_giveFarms_157 ?_
                  refine lv_iload_n hx hb dX0_giveFarms_160 rfl (lv_at hl 3 rfl) ?_
                  refine lv_iadd hx hb dX0_giveFarms_161 ?_
                  refine lv_topi (fun x2076 ex2076 => ?_)
                  have t2077 : x2076.toInt = hv0.toInt + z1170.toInt := ti_add ex2076 rfl rfl (by omega) (by omega)
                  refine tw_put (v := .int x2076) (ty := .int) hx hb hts bF2_X0 tyX0 tyX0_ok nmX0 hown hK hT hG hS hr_o0 shc_3 rfl 15 (by decide) (ht_at2 hts 1 rfl) (fun _ h9 => h9) rfl (by decide +kernel) rfl rfl (gl_at rfl (gi_all _)) dX0_giveFarms_162 (fun H locs hT oq m2078 oj hS => ?_)
                  have hF := hF.put hr_o0 skc_3 oq oj (by decide)
                  have m2080 := m1949.kept (oq _ (gne hr_hd9 hr_o0 (by decide)))
                  refine lv_iload_n hx hb dX0_giveFarms_165 rfl (lv_at hl 3 rfl) ?_
                  exact W.iret (v := z1170) hx hb hr (fun t ht hW => ⟨⟨z1170, (x2076, V1174), rfl, (by exact ⟨(by have q8 := ti_all z1170; omega), (by have r9 := (show z1170.toInt = z1170.toInt from rfl); exact Or.inl ⟨by omega, ⟨by omega, by omega⟩, hfm1736, hno1737⟩), (by have := (show x2076.toInt = x2076.toInt from rfl); have := (show z1170.toInt = z1170.toInt from rfl); have := hct1738; exact ⟨by omega, by omega⟩)⟩), by (try dsimp only); rw [ht]; exact ⟨hT, hF, m2078, m2080, (fun h9 => by exfalso; have h8 := congrArg Int32.toInt h9; have z8 : (0 : Int32).toInt = 0 := (by decide); have := (show x2076.toInt = x2076.toInt from rfl); omega)⟩⟩, hS.F ht⟩) hS.2.2 dX0_giveFarms_166
      exact key1620 (60 - 0) 0 (by omega) (Nat.le_refl _) 0 V2 vh ⟨(by have q9 := (show (0 : Int32).toInt = 0 from (by decide)); (try have q8 := ti_all (0 : Int32)); omega), ⟨hct, Or.inl ⟨by omega, by decide, rfl, by rw [show nS.toNat = 60 from by omega]; exact hj22⟩⟩, (by have := (show (0 : Int32).toInt = 0 from (by decide)); omega), (by omega)⟩ _ _ hT hF (fun _ => hF2) hS m3 m4 m5 m6 m7 m8 m9 m10 m11 m12 m13 m14 m15 m16 m17 m18 m19 m20 m21 m1165 ls (lv_sub hl [0, 1, 2, 3, 4] rfl)
    | succ n1163 ih1163 =>
      intro i1 hn1163 hlo1164 V2 ⟨hj22, hj23⟩ H locs hT hF hF2 hS m3 m4 m5 m6 m7 m8 m9 m10 m11 m12 m13 m14 m15 m16 m17 m18 m19 m20 m21 ls hl
      have hlt2098 : i1 < 60 := by omega
      refine lv_iload_n hx hb dX0_giveFarms_2 rfl (lv_at hl 0 rfl) ?_
      refine lv_aload_n hx hb dX0_giveFarms_3 rfl (lv_at hl 1 rfl) ?_
      refine tw_get hx hb hts bF2_X0 hown hK hT hr_o0 shc_3 rfl 14 (by decide) (ht_at2 hts 0 rfl) (fun _ h9 => h9) dX0_giveFarms_4 (fun v9 m2099 h9 => ?_)
      obtain ⟨x2100, rfl, gx2100, kx2100⟩ := h9 _ rfl
      refine lv_icmp_ge (tgt := 76) hx hb dX0_giveFarms_7 (by decide) (fun c2101 => ?_) (fun c2101 => ?_)
      · have t2102 : x2100.toInt ≤ ((i1 : Nat) : Int) := ti_le c2101 rfl (nI_toInt (by omega))
        refine lv_iconst (v := 0) hx hb dX0_giveFarms_76 (by decide) ?_
        refine lv_istore_n (lv' := [(3, .int 0), (0, .ref o0), (1, .int p0), (2, .ref p1)]) hx hb dX0_giveFarms_77 rfl hl (by decide) rfl (fun ls hl => ?_)
        refine lv_iconst (v := 0) hx hb dX0_giveFarms_78 (by decide) ?_
        refine lv_istore (lv' := [(4, .int 0), (3, .int 0), (0, .ref o0), (1, .int p0), (2, .ref p1)]) hx hb dX0_giveFarms_79 hl (by decide) rfl (fun ls hl => ?_)
        have key2554 : ∀ (n2554 i2103 : Nat), i2103 + n2554 = 60 → 0 ≤ i2103 → ∀ (z2104 : Int32), ∀ (V2106 : Nat → Int32), ∀ (V2108 : Nat → Int32), ((0 ≤ z2104.toInt ∧ z2104.toInt ≤ 60) ∧ ((zct V2108 30 = z2104.toInt) ∧ ((((i2103 : Nat) : Int) = 0 ∧ z2104.toInt = 0 ∧ vh = V2108 ∧ zPm (zLs (fun _ => 0) vA vD vC vU vI vW (fun _ => 0)) A9 V2106 nS.toNat) ∨ (1 ≤ ((i2103 : Nat) : Int) ∧ 1 ≤ z2104.toInt ∧ 0 < fm.toInt ∧ zNO (zLs (fun _ => 0) vA vD vC vU vI vW (fun _ => 0)) A9 nS))) ∧ (0 ≤ z2104.toInt ∧ z2104.toInt ≤ ((i2103 : Nat) : Int)) ∧ (((i2103 : Nat) : Int) = 0 ∨ ((i2103 : Nat) : Int) ≤ p0.toInt)) → ∀ (H : Heap) (locs : List Loc), gH (dC, dI) kA (SHc nC nS) G H → gF (dC, dI) SKc G ([(3, 15), (10, 7), (50, 0), (54, 0), (56, 0), (57, 0)] : List (Nat × Nat)) s.heap H → (i2103 = 0 → gF (dC, dI) SKc G ([(3, 15), (50, 0), (56, 0), (57, 0)] : List (Nat × Nat)) s.heap H) → va_S A s.heap H locs → ct H mk9 60 V2106 → ct H hd9 30 V2108 → ct H kn 20 vK → ct H sf 20 vF → ct H sto 20 vT → ct H stp9 400 vS → el H o0 (dI 3 6) = some (.ref mk9) → el H o0 (dI 3 3) = some (.ref hd9) → el H o0 (dI 3 0) = some (.ref sA) → el H o0 (dI 3 16) = some (.int fm) → el H o0 (dI 3 5) = some (.ref fa9) → el H o0 (dI 3 15) = some (.int hv0) → el H o0 (dI 3 7) = some (.ref lw) → el H lw (dI 7 2) = some (.ref kn) → el H lw (dI 7 11) = some (.int ln) → el H lw (dI 7 7) = some (.ref sf) → el H lw (dI 7 8) = some (.ref sto) → el H lw (dI 7 9) = some (.ref stp9) → el H lw (dI 7 10) = some (.ref stk) → el H o0 (dI 3 14) = some (.int x2100) → ∀ ls : Array Slot, lv_has ls 7 [(4, .int (nI i2103)), (3, .int z2104), (0, .ref o0), (1, .int p0), (2, .ref p1)] → W p l e (headSpec w_c_giveFarmsZ ({ frames := 5, cells := 0, slots := 0, locals := 135 })).room s m #[.ref o0, .int p0, .ref p1] below meth c H locs 0 0 (MQ below (va_Qi (fun (r : Int32) (u : Int32 × (Nat → Int32)) => match u with | (hl1, vh1) => (0 ≤ r.toInt ∧ r.toInt ≤ 60) ∧ ((0 < r.toInt ∧ ((1 ≤ p0.toInt ∧ p0.toInt ≤ 60) ∧ 0 < fm.toInt ∧ zNO (zLs (fun _ => 0) vA vD vC vU vI vW (fun _ => 0)) A9 nS)) ∨ (r.toInt = 0 ∧ ¬ ((1 ≤ p0.toInt ∧ p0.toInt ≤ 60) ∧ 0 < fm.toInt ∧ zNO (zLs (fun _ => 0) vA vD vC vU vI vW (fun _ => 0)) A9 nS) ∧ vh = vh1)) ∧ (hl1.toInt = r.toInt ∧ zct vh1 30 = hl1.toInt)) (fun (u : Int32 × (Nat → Int32)) (t : State) => match u with | (hl1, vh1) => gH (dC, dI) kA (SHc nC nS) G t.heap ∧ gF (dC, dI) SKc G ([(3, 15), (10, 7), (50, 0), (54, 0), (56, 0), (57, 0)] : List (Nat × Nat)) s.heap t.heap ∧ el t.heap o0 (dI 3 15) = some (.int hl1) ∧ ct t.heap hd9 30 vh1 ∧ (hl1 = 0 → gF (dC, dI) SKc G ([(3, 15), (50, 0), (56, 0), (57, 0)] : List (Nat × Nat)) s.heap t.heap)) A) #[.ref o0, .int p0, .ref p1] s 0 0 A) (F0 m 81 ls []) := by
          intro n2554
          induction n2554 with
          | zero =>
            intro i2103 hn2554 hlo2555 z2104 V2106 V2108 ⟨h2105, hj2128, hj2129, hj2130⟩ H locs hT hF hF3 hS m2107 m2109 m2110 m2111 m2112 m2113 m2114 m2115 m2116 m2117 m2118 m2119 m2120 m2121 m2122 m2123 m2124 m2125 m2126 m2127 ls hl
            obtain rfl : 60 = i2103 := by omega
            refine lv_iload hx hb dX0_giveFarms_81 (lv_at hl 0 rfl) ?_
            refine lv_iload_n hx hb dX0_giveFarms_83 rfl (lv_at hl 3 rfl) ?_
            refine lv_icmp_ge (tgt := 155) hx hb dX0_giveFarms_84 (by decide) (fun c2556 => ?_) (fun c2556 => (by exfalso; have q9 : ((60 : Nat) : Int) < p0.toInt := ti_nle c2556 rfl (nI_toInt (by omega)); omega))
            have t2557 : p0.toInt ≤ ((60 : Nat) : Int) := ti_le c2556 rfl (nI_toInt (by omega))
            obtain ⟨hct2565, hj2128x⟩ := hj2128
            rcases hj2128x with ⟨ha2558, ha2559, rfl, hpm2560⟩ | ⟨hb2561, hb2562, hfm2563, hno2564⟩
            · have hF2 := hF3 (by omega)
              refine lv_aload_n hx hb dX0_giveFarms_155 rfl (lv_at hl 2 rfl) ?_
              refine lv_dup hx hb dX0_giveFarms_156 rfl ?_
              refine tw_getM (v := .int hv0) hx hb hts bF2_X0 hown hK hT hr_o0 shc_3 rfl 15 (by decide) (ht_at2 hts 1 rfl) (fun _ h9 => h9) m2119 dX0_giveFarms_157 ?_
              refine lv_iload_n hx hb dX0_giveFarms_160 rfl (lv_at hl 1 rfl) ?_
              refine lv_iadd hx hb dX0_giveFarms_161 ?_
              refine lv_topi (fun x2566 ex2566 => ?_)
              have t2567 : x2566.toInt = hv0.toInt + z2104.toInt := ti_add ex2566 rfl rfl (by omega) (by omega)
              refine tw_put (v := .int x2566) (ty := .int) hx hb hts bF2_X0 tyX0 tyX0_ok nmX0 hown hK hT hG hS hr_o0 shc_3 rfl 15 (by decide) (ht_at2 hts 1 rfl) (fun _ h9 => h9) rfl (by decide +kernel) rfl rfl (gl_at rfl (gi_all _)) dX0_giveFarms_162 (fun H locs hT oq m2568 oj hS => ?_)
              have hF := hF.put hr_o0 skc_3 oq oj (by decide)
              have hF2 := hF2.put hr_o0 skc_3 oq oj (by decide)
              have m2570 := m2109.kept (oq _ (gne hr_hd9 hr_o0 (by decide)))
              refine lv_iload_n hx hb dX0_giveFarms_165 rfl (lv_at hl 1 rfl) ?_
              exact W.iret (v := z2104) hx hb hr (fun t ht hW => ⟨⟨z2104, (x2566, vh), rfl, (by exact ⟨(by have q8 := ti_all z2104; omega), (by have r9 := (show z2104.toInt = z2104.toInt from rfl); exact Or.inr ⟨by omega, fun h8 => by have := h8.1; omega, rfl⟩), (by have := (show x2566.toInt = x2566.toInt from rfl); have := (show z2104.toInt = z2104.toInt from rfl); have := hct2565; exact ⟨by omega, by omega⟩)⟩), by (try dsimp only); rw [ht]; exact ⟨hT, hF, m2568, m2570, (fun _ => hF2)⟩⟩, hS.F ht⟩) hS.2.2 dX0_giveFarms_166
            · refine lv_aload_n hx hb dX0_giveFarms_155 rfl (lv_at hl 2 rfl) ?_
              refine lv_dup hx hb dX0_giveFarms_156 rfl ?_
              refine tw_getM (v := .int hv0) hx hb hts bF2_X0 hown hK hT hr_o0 shc_3 rfl 15 (by decide) (ht_at2 hts 1 rfl) (fun _ h9 => h9) m2119 dX0_giveFarms_157 ?_
              refine lv_iload_n hx hb dX0_giveFarms_160 rfl (lv_at hl 1 rfl) ?_
              refine lv_iadd hx hb dX0_giveFarms_161 ?_
              refine lv_topi (fun x2588 ex2588 => ?_)
              have t2589 : x2588.toInt = hv0.toInt + z2104.toInt := ti_add ex2588 rfl rfl (by omega) (by omega)
              refine tw_put (v := .int x2588) (ty := .int) hx hb hts bF2_X0 tyX0 tyX0_ok nmX0 hown hK hT hG hS hr_o0 shc_3 rfl 15 (by decide) (ht_at2 hts 1 rfl) (fun _ h9 => h9) rfl (by decide +kernel) rfl rfl (gl_at rfl (gi_all _)) dX0_giveFarms_162 (fun H locs hT oq m2590 oj hS => ?_)
              have hF := hF.put hr_o0 skc_3 oq oj (by decide)
              have m2592 := m2109.kept (oq _ (gne hr_hd9 hr_o0 (by decide)))
              refine lv_iload_n hx hb dX0_giveFarms_165 rfl (lv_at hl 1 rfl) ?_
              exact W.iret (v := z2104) hx hb hr (fun t ht hW => ⟨⟨z2104, (x2588, V2108), rfl, (by exact ⟨(by have q8 := ti_all z2104; omega), (by have r9 := (show z2104.toInt = z2104.toInt from rfl); exact Or.inl ⟨by omega, ⟨by omega, by omega⟩, hfm2563, hno2564⟩), (by have := (show x2588.toInt = x2588.toInt from rfl); have := (show z2104.toInt = z2104.toInt from rfl); have := hct2565; exact ⟨by omega, by omega⟩)⟩), by (try dsimp only); rw [ht]; exact ⟨hT, hF, m2590, m2592, (fun h9 => by exfalso; have h8 := congrArg Int32.toInt h9; have z8 : (0 : Int32).toInt = 0 := (by decide); have := (show x2588.toInt = x2588.toInt from rfl); omega)⟩⟩, hS.F ht⟩) hS.2.2 dX0_giveFarms_166
          | succ n2554 ih2554 =>
            intro i2103 hn2554 hlo2555 z2104 V2106 V2108 ⟨h2105, hj2128, hj2129, hj2130⟩ H locs hT hF hF3 hS m2107 m2109 m2110 m2111 m2112 m2113 m2114 m2115 m2116 m2117 m2118 m2119 m2120 m2121 m2122 m2123 m2124 m2125 m2126 m2127 ls hl
            have hlt2609 : i2103 < 60 := by omega
            refine lv_iload hx hb dX0_giveFarms_81 (lv_at hl 0 rfl) ?_
            refine lv_iload_n hx hb dX0_giveFarms_83 rfl (lv_at hl 3 rfl) ?_
            refine lv_icmp_ge (tgt := 155) hx hb dX0_giveFarms_84 (by decide) (fun c2610 => ?_) (fun c2610 => ?_)
            · have t2611 : p0.toInt ≤ ((i2103 : Nat) : Int) := ti_le c2610 rfl (nI_toInt (by omega))
              obtain ⟨hct2619, hj2128x⟩ := hj2128
              rcases hj2128x with ⟨ha2612, ha2613, rfl, hpm2614⟩ | ⟨hb2615, hb2616, hfm2617, hno2618⟩
              · have hF2 := hF3 (by omega)
                refine lv_aload_n hx hb dX0_giveFarms_155 rfl (lv_at hl 2 rfl) ?_
                refine lv_dup hx hb dX0_giveFarms_156 rfl ?_
                refine tw_getM (v := .int hv0) hx hb hts bF2_X0 hown hK hT hr_o0 shc_3 rfl 15 (by decide) (ht_at2 hts 1 rfl) (fun _ h9 => h9) m2119 dX0_giveFarms_157 ?_
                refine lv_iload_n hx hb dX0_giveFarms_160 rfl (lv_at hl 1 rfl) ?_
                refine lv_iadd hx hb dX0_giveFarms_161 ?_
                refine lv_topi (fun x2620 ex2620 => ?_)
                have t2621 : x2620.toInt = hv0.toInt + z2104.toInt := ti_add ex2620 rfl rfl (by omega) (by omega)
                refine tw_put (v := .int x2620) (ty := .int) hx hb hts bF2_X0 tyX0 tyX0_ok nmX0 hown hK hT hG hS hr_o0 shc_3 rfl 15 (by decide) (ht_at2 hts 1 rfl) (fun _ h9 => h9) rfl (by decide +kernel) rfl rfl (gl_at rfl (gi_all _)) dX0_giveFarms_162 (fun H locs hT oq m2622 oj hS => ?_)
                have hF := hF.put hr_o0 skc_3 oq oj (by decide)
                have hF2 := hF2.put hr_o0 skc_3 oq oj (by decide)
                have m2624 := m2109.kept (oq _ (gne hr_hd9 hr_o0 (by decide)))
                refine lv_iload_n hx hb dX0_giveFarms_165 rfl (lv_at hl 1 rfl) ?_
                exact W.iret (v := z2104) hx hb hr (fun t ht hW => ⟨⟨z2104, (x2620, vh), rfl, (by exact ⟨(by have q8 := ti_all z2104; omega), (by have r9 := (show z2104.toInt = z2104.toInt from rfl); exact Or.inr ⟨by omega, fun h8 => by have := h8.1; omega, rfl⟩), (by have := (show x2620.toInt = x2620.toInt from rfl); have := (show z2104.toInt = z2104.toInt from rfl); have := hct2619; exact ⟨by omega, by omega⟩)⟩), by (try dsimp only); rw [ht]; exact ⟨hT, hF, m2622, m2624, (fun _ => hF2)⟩⟩, hS.F ht⟩) hS.2.2 dX0_giveFarms_166
              · refine lv_aload_n hx hb dX0_giveFarms_155 rfl (lv_at hl 2 rfl) ?_
                refine lv_dup hx hb dX0_giveFarms_156 rfl ?_
                refine tw_getM (v := .int hv0) hx hb hts bF2_X0 hown hK hT hr_o0 shc_3 rfl 15 (by decide) (ht_at2 hts 1 rfl) (fun _ h9 => h9) m2119 dX0_giveFarms_157 ?_
                refine lv_iload_n hx hb dX0_giveFarms_160 rfl (lv_at hl 1 rfl) ?_
                refine lv_iadd hx hb dX0_giveFarms_161 ?_
                refine lv_topi (fun x2642 ex2642 => ?_)
                have t2643 : x2642.toInt = hv0.toInt + z2104.toInt := ti_add ex2642 rfl rfl (by omega) (by omega)
                refine tw_put (v := .int x2642) (ty := .int) hx hb hts bF2_X0 tyX0 tyX0_ok nmX0 hown hK hT hG hS hr_o0 shc_3 rfl 15 (by decide) (ht_at2 hts 1 rfl) (fun _ h9 => h9) rfl (by decide +kernel) rfl rfl (gl_at rfl (gi_all _)) dX0_giveFarms_162 (fun H locs hT oq m2644 oj hS => ?_)
                have hF := hF.put hr_o0 skc_3 oq oj (by decide)
                have m2646 := m2109.kept (oq _ (gne hr_hd9 hr_o0 (by decide)))
                refine lv_iload_n hx hb dX0_giveFarms_165 rfl (lv_at hl 1 rfl) ?_
                exact W.iret (v := z2104) hx hb hr (fun t ht hW => ⟨⟨z2104, (x2642, V2108), rfl, (by exact ⟨(by have q8 := ti_all z2104; omega), (by have r9 := (show z2104.toInt = z2104.toInt from rfl); exact Or.inl ⟨by omega, ⟨by omega, by omega⟩, hfm2617, hno2618⟩), (by have := (show x2642.toInt = x2642.toInt from rfl); have := (show z2104.toInt = z2104.toInt from rfl); have := hct2619; exact ⟨by omega, by omega⟩)⟩), by (try dsimp only); rw [ht]; exact ⟨hT, hF, m2644, m2646, (fun h9 => by exfalso; have h8 := congrArg Int32.toInt h9; have z8 : (0 : Int32).toInt = 0 := (by decide); have := (show x2642.toInt = x2642.toInt from rfl); omega)⟩⟩, hS.F ht⟩) hS.2.2 dX0_giveFarms_166
            · have t2664 : ((i2103 : Nat) : Int) < p0.toInt := ti_nle c2610 rfl (nI_toInt (by omega))
              obtain ⟨hct2672, hj2128x⟩ := hj2128
              rcases hj2128x with ⟨ha2665, ha2666, rfl, hpm2667⟩ | ⟨hb2668, hb2669, hfm2670, hno2671⟩
              · have hF2 := hF3 (by omega)
                refine lv_aload_n hx hb dX0_giveFarms_87 rfl (lv_at hl 2 rfl) ?_
                have hFc := gA_free hG hA hS
                refine va_calli (va_runV (As := []) (rest := []) ⟨hx, hb, hml, hown, hts⟩ (c_firstByMarkZ l dC dI kA adK adV G H nC nS o0 mk9 V2106 hT hr_o0 m2114 hr_mk9 m2107 (by omega) (by omega)) (cwV 0 hts (goodIn_app (goodIn_r _ [6, 7, 8, 9] rfl (by decide +kernel)) (goodIn_ca (goodIn_r _ [3, 1, 4, 5] rfl (by decide +kernel)) (bs2_in _ _))) rfl rfl rfl (by decide +kernel) ⟨(Nat.le_of_ble_eq_true rfl), (Nat.le_of_ble_eq_true rfl)⟩) ⟨fun a U g mk q => by obtain ⟨q0, q1, qK, qE⟩ := q; exact ⟨q0, q1, va_K.moved (u := U) (U := U.calling g mk a) (Vm.Alike.refl U.vm) qK, EVC.blind g mk a qE⟩, gH_rc hK hT hr_o0 shc_3 rfl, fun U hU hW => ⟨rfl, hU, va_K.moved hW.alike hK, hE.call hS hFc hU hW⟩⟩ rfl rfl hl.1 rfl (lv_room (Nat.le_of_ble_eq_true rfl)) dX0_giveFarms_88 ⟨(Nat.le_of_ble_eq_true rfl), (Nat.le_of_ble_eq_true rfl)⟩) hS (fun q _ h => hFc q h) hFc (fun r2673 u t H locs ht hvm hw2674 hB _ _ hS => ?_)
                obtain ⟨hT, hF1⟩ := hB
                rw [ht] at hT hF1
                have m2675 := m2107.kept (hF1.arr hr_mk9 skc_57 (by decide))
                have m2676 := m2109.kept (hF1.arr hr_hd9 skc_54 (by decide))
                have m2677 := m2110.kept (hF1.arr hr_kn skc_42 (by decide))
                have m2678 := m2111.kept (hF1.arr hr_sf skc_47 (by decide))
                have m2679 := m2112.kept (hF1.arr hr_sto skc_48 (by decide))
                have m2680 := m2113.kept (hF1.arr hr_stp9 skc_49 (by decide))
                have m2681 := (hF1.fld hr_o0 skc_3 (k := 6) (by decide) (by decide)).trans m2114
                have m2682 := (hF1.fld hr_o0 skc_3 (k := 3) (by decide) (by decide)).trans m2115
                have m2683 := (hF1.fld hr_o0 skc_3 (k := 0) (by decide) (by decide)).trans m2116
                have m2684 := (hF1.fld hr_o0 skc_3 (k := 16) (by decide) (by decide)).trans m2117
                have m2685 := (hF1.fld hr_o0 skc_3 (k := 5) (by decide) (by decide)).trans m2118
                have m2686 := (hF1.fld hr_o0 skc_3 (k := 15) (by decide) (by decide)).trans m2119
                have m2687 := (hF1.fld hr_o0 skc_3 (k := 7) (by decide) (by decide)).trans m2120
                have m2688 := (hF1.fld hr_lw skc_7 (k := 2) (by decide) (by decide)).trans m2121
                have m2689 := (hF1.fld hr_lw skc_7 (k := 11) (by decide) (by decide)).trans m2122
                have m2690 := (hF1.fld hr_lw skc_7 (k := 7) (by decide) (by decide)).trans m2123
                have m2691 := (hF1.fld hr_lw skc_7 (k := 8) (by decide) (by decide)).trans m2124
                have m2692 := (hF1.fld hr_lw skc_7 (k := 9) (by decide) (by decide)).trans m2125
                have m2693 := (hF1.fld hr_lw skc_7 (k := 10) (by decide) (by decide)).trans m2126
                have m2694 := (hF1.fld hr_o0 skc_3 (k := 14) (by decide) (by decide)).trans m2127
                have hF := hF.more hF1 (by decide)
                have hF2 := hF2.more hF1 (by decide)
                try dsimp only at hw2674
                obtain ⟨h2695, hf2696⟩ := hw2674
                refine lv_istore (lv' := [(5, .int r2673), (4, .int (nI i2103)), (3, .int z2104), (0, .ref o0), (1, .int p0), (2, .ref p1)]) hx hb dX0_giveFarms_91 hl (by decide) rfl (fun ls hl => ?_)
                refine lv_aload_n hx hb dX0_giveFarms_93 rfl (lv_at hl 3 rfl) ?_
                refine lv_aload_n hx hb dX0_giveFarms_94 rfl (lv_at hl 5 rfl) ?_
                refine tw_getN hx hb hts bF2_X3 hown hK hT hr_p1 shc_6 rfl 1 (by decide) (hE.nw 73 rfl) (fun _ h9 => h9) dX0_giveFarms_95 (fun v9 m2697 h9 => ?_)
                obtain ⟨b2698, rfl, hg2699⟩ := h9 _ rfl
                have hFc := gA_free hG hA hS
                refine va_calli (va_runV (As := [.ref b2698]) (rest := []) ⟨hx, hb, hml, hown, hts⟩ (c_bestFreeFarmZ l dC dI kA adK adV G H nC nS o0 b2698 hd9 fm vh hT hg2699 hr_o0 m2682 hr_hd9 m2684 (by have q8 := ti_all fm; omega) hnh m2676 (by omega) (by omega)) (cwV 1 hts (goodIn_app (goodIn_r _ [22, 23, 24, 9] rfl (by decide +kernel)) (goodIn_ca (goodIn_r _ [10, 11, 12, 13, 14, 15, 16, 17, 18, 19, 20, 21, 9] rfl (by decide +kernel)) (bs2_in _ _))) rfl rfl rfl (by decide +kernel) ⟨(Nat.le_of_ble_eq_true rfl), (Nat.le_of_ble_eq_true rfl)⟩) ⟨fun a U g mk q => by obtain ⟨q0, q1, qK, qE⟩ := q; exact ⟨q0, q1, va_K.moved (u := U) (U := U.calling g mk a) (Vm.Alike.refl U.vm) qK, EVC.blind g mk a qE⟩, gH_rc hK hT hr_o0 shc_3 rfl, fun U hU hW => ⟨rfl, hU, va_K.moved hW.alike hK, hE.call hS hFc hU hW⟩⟩ rfl rfl hl.1 rfl (lv_room (Nat.le_of_ble_eq_true rfl)) dX0_giveFarms_98 ⟨(Nat.le_of_ble_eq_true rfl), (Nat.le_of_ble_eq_true rfl)⟩) hS (fun q _ h => hFc q h) hFc (fun r2700 u t H locs ht hvm hw2701 hB _ _ hS => ?_)
                obtain ⟨hT, hF1⟩ := hB
                rw [ht] at hT hF1
                have m2702 := m2675.kept (hF1.arr hr_mk9 skc_57 (by decide))
                have m2703 := m2676.kept (hF1.arr hr_hd9 skc_54 (by decide))
                have m2704 := m2677.kept (hF1.arr hr_kn skc_42 (by decide))
                have m2705 := m2678.kept (hF1.arr hr_sf skc_47 (by decide))
                have m2706 := m2679.kept (hF1.arr hr_sto skc_48 (by decide))
                have m2707 := m2680.kept (hF1.arr hr_stp9 skc_49 (by decide))
                have m2708 := (hF1.fld hr_o0 skc_3 (k := 6) (by decide) (by decide)).trans m2681
                have m2709 := (hF1.fld hr_o0 skc_3 (k := 3) (by decide) (by decide)).trans m2682
                have m2710 := (hF1.fld hr_o0 skc_3 (k := 0) (by decide) (by decide)).trans m2683
                have m2711 := (hF1.fld hr_o0 skc_3 (k := 16) (by decide) (by decide)).trans m2684
                have m2712 := (hF1.fld hr_o0 skc_3 (k := 5) (by decide) (by decide)).trans m2685
                have m2713 := (hF1.fld hr_o0 skc_3 (k := 15) (by decide) (by decide)).trans m2686
                have m2714 := (hF1.fld hr_o0 skc_3 (k := 7) (by decide) (by decide)).trans m2687
                have m2715 := (hF1.fld hr_lw skc_7 (k := 2) (by decide) (by decide)).trans m2688
                have m2716 := (hF1.fld hr_lw skc_7 (k := 11) (by decide) (by decide)).trans m2689
                have m2717 := (hF1.fld hr_lw skc_7 (k := 7) (by decide) (by decide)).trans m2690
                have m2718 := (hF1.fld hr_lw skc_7 (k := 8) (by decide) (by decide)).trans m2691
                have m2719 := (hF1.fld hr_lw skc_7 (k := 9) (by decide) (by decide)).trans m2692
                have m2720 := (hF1.fld hr_lw skc_7 (k := 10) (by decide) (by decide)).trans m2693
                have m2721 := (hF1.fld hr_o0 skc_3 (k := 14) (by decide) (by decide)).trans m2694
                have hF := hF.more hF1 (by decide)
                have hF2 := hF2.more hF1 (by decide)
                try dsimp only at hw2701
                obtain ⟨h2723, hf2724⟩ := hw2701
                refine lv_istore (lv' := [(6, .int r2700), (5, .int r2673), (4, .int (nI i2103)), (3, .int z2104), (0, .ref o0), (1, .int p0), (2, .ref p1)]) hx hb dX0_giveFarms_101 hl (by decide) rfl (fun ls hl => ?_)
                refine lv_iload hx hb dX0_giveFarms_103 (lv_at hl 1 rfl) ?_
                refine lv_iconst (v := (-1)) hx hb dX0_giveFarms_105 (by decide) ?_
                refine lv_icmp_eq (tgt := 155) hx hb dX0_giveFarms_106 (by decide) (fun c2725 => ?_) (fun c2725 => ?_)
                · have t2726 : r2673.toInt = (-1) := ti_eq c2725 rfl (by decide)
                  refine lv_aload_n hx hb dX0_giveFarms_155 rfl (lv_at hl 4 rfl) ?_
                  refine lv_dup hx hb dX0_giveFarms_156 rfl ?_
                  refine tw_getM (v := .int hv0) hx hb hts bF2_X0 hown hK hT hr_o0 shc_3 rfl 15 (by decide) (ht_at2 hts 1 rfl) (fun _ h9 => h9) m2713 dX0_giveFarms_157 ?_
                  refine lv_iload_n hx hb dX0_giveFarms_160 rfl (lv_at hl 3 rfl) ?_
                  refine lv_iadd hx hb dX0_giveFarms_161 ?_
                  refine lv_topi (fun x2727 ex2727 => ?_)
                  have t2728 : x2727.toInt = hv0.toInt + z2104.toInt := ti_add ex2727 rfl rfl (by omega) (by omega)
                  refine tw_put (v := .int x2727) (ty := .int) hx hb hts bF2_X0 tyX0 tyX0_ok nmX0 hown hK hT hG hS hr_o0 shc_3 rfl 15 (by decide) (ht_at2 hts 1 rfl) (fun _ h9 => h9) rfl (by decide +kernel) rfl rfl (gl_at rfl (gi_all _)) dX0_giveFarms_162 (fun H locs hT oq m2729 oj hS => ?_)
                  have hF := hF.put hr_o0 skc_3 oq oj (by decide)
                  have hF2 := hF2.put hr_o0 skc_3 oq oj (by decide)
                  have m2731 := m2703.kept (oq _ (gne hr_hd9 hr_o0 (by decide)))
                  refine lv_iload_n hx hb dX0_giveFarms_165 rfl (lv_at hl 3 rfl) ?_
                  exact W.iret (v := z2104) hx hb hr (fun t ht hW => ⟨⟨z2104, (x2727, vh), rfl, (by exact ⟨(by have q8 := ti_all z2104; omega), (by have r9 := (show z2104.toInt = z2104.toInt from rfl); exact Or.inr ⟨by omega, fun h8 => by have := h8.2.1; have n9 := h8.2.2; rcases hf2696 with ⟨h7, h6⟩ | ⟨h7, h6, h5⟩; (exact (hpm2667.no (by omega) h6) n9); omega, rfl⟩), (by have := (show x2727.toInt = x2727.toInt from rfl); have := (show z2104.toInt = z2104.toInt from rfl); have := hct2672; exact ⟨by omega, by omega⟩)⟩), by (try dsimp only); rw [ht]; exact ⟨hT, hF, m2729, m2731, (fun _ => hF2)⟩⟩, hS.F ht⟩) hS.2.2 dX0_giveFarms_166
                · have t2750 : r2673.toInt ≠ (-1) := ti_ne c2725 rfl (by decide)
                  refine lv_iload hx hb dX0_giveFarms_109 (lv_at hl 0 rfl) ?_
                  refine lv_iconst (v := (-1)) hx hb dX0_giveFarms_111 (by decide) ?_
                  refine lv_icmp_ne (tgt := 118) hx hb dX0_giveFarms_112 (by decide) (fun c2751 => ?_) (fun c2751 => ?_)
                  · have t2752 : r2700.toInt ≠ (-1) := ti_ne c2751 rfl (by decide)
                    refine lv_aload_n hx hb dX0_giveFarms_118 rfl (lv_at hl 4 rfl) ?_
                    refine tw_getM (v := .ref mk9) hx hb hts bF2_X0 hown hK hT hr_o0 shc_3 rfl 6 (by decide) (ht_at2 hts 3 rfl) (fun _ h9 => h9) m2708 dX0_giveFarms_119 ?_
                    refine lv_iload hx hb dX0_giveFarms_122 (lv_at hl 1 rfl) ?_
                    refine lv_iconst (v := (-1)) hx hb dX0_giveFarms_124 (by decide) ?_
                    refine tw_iast (i := r2673) (x := (-1)) hx hb hK hT hG hS hr_mk9 shc_57 rfl (vin_t (a := r2673.toInt) rfl (by omega) (by omega)) (gi_all _) dX0_giveFarms_125 (fun H locs hT oq m2753 oi hS => ?_)
                    have hF := hF.ast hr_mk9 skc_57 oq (by decide)
                    have hF2 := hF2.ast hr_mk9 skc_57 oq (by decide)
                    have m2754 := m2702.put m2753 oi
                    have m2755 := m2703.kept (oq _ (gne hr_hd9 hr_mk9 (by decide)))
                    have m2756 := m2704.kept (oq _ (gne hr_kn hr_mk9 (by decide)))
                    have m2757 := m2705.kept (oq _ (gne hr_sf hr_mk9 (by decide)))
                    have m2758 := m2706.kept (oq _ (gne hr_sto hr_mk9 (by decide)))
                    have m2759 := m2707.kept (oq _ (gne hr_stp9 hr_mk9 (by decide)))
                    have m2760 := (el_kept (oq _ (gne hr_o0 hr_mk9 (by decide)))).trans m2708
                    have m2761 := (el_kept (oq _ (gne hr_o0 hr_mk9 (by decide)))).trans m2709
                    have m2762 := (el_kept (oq _ (gne hr_o0 hr_mk9 (by decide)))).trans m2710
                    have m2763 := (el_kept (oq _ (gne hr_o0 hr_mk9 (by decide)))).trans m2711
                    have m2764 := (el_kept (oq _ (gne hr_o0 hr_mk9 (by decide)))).trans m2712
                    have m2765 := (el_kept (oq _ (gne hr_o0 hr_mk9 (by decide)))).trans m2713
                    have m2766 := (el_kept (oq _ (gne hr_o0 hr_mk9 (by decide)))).trans m2714
                    have m2767 := (el_kept (oq _ (gne hr_lw hr_mk9 (by decide)))).trans m2715
                    have m2768 := (el_kept (oq _ (gne hr_lw hr_mk9 (by decide)))).trans m2716
                    have m2769 := (el_kept (oq _ (gne hr_lw hr_mk9 (by decide)))).trans m2717
                    have m2770 := (el_kept (oq _ (gne hr_lw hr_mk9 (by decide)))).trans m2718
                    have m2771 := (el_kept (oq _ (gne hr_lw hr_mk9 (by decide)))).trans m2719
                    have m2772 := (el_kept (oq _ (gne hr_lw hr_mk9 (by decide)))).trans m2720
                    have m2773 := (el_kept (oq _ (gne hr_o0 hr_mk9 (by decide)))).trans m2721
                    refine lv_aload_n hx hb dX0_giveFarms_126 rfl (lv_at hl 4 rfl) ?_
                    refine tw_getM (v := .ref sA) hx hb hts bF2_X0 hown hK hT hr_o0 shc_3 rfl 0 (by decide) (ht_at2 hts 4 rfl) (fun _ h9 => h9) m2762 dX0_giveFarms_127 ?_
                    refine lv_iload hx hb dX0_giveFarms_130 (lv_at hl 1 rfl) ?_
                    refine tw_aald (i := r2673) hx hb hK hT hr_sA shc_51 rfl (vin_t (a := r2673.toInt) rfl (by omega) (by omega)) dX0_giveFarms_132 (fun v9 m2775 h9 => ?_)
                    obtain ⟨b2776, rfl, hg2777⟩ := (h9.1 (by have q9 := tn_of (show r2673.toInt = r2673.toInt from rfl) (by omega); omega))
                    refine lv_iload hx hb dX0_giveFarms_133 (lv_at hl 0 rfl) ?_
                    refine tw_putN (v := .int r2700) (ty := .int) hx hb hts bF2_X7 tyX7 tyX7_ok nmX7 hown hK hT hG hS hg2777 shc_10 rfl 7 (by decide) (hE.nw 61 rfl) (fun _ h9 => h9) rfl (by decide +kernel) rfl rfl (gl_at rfl (gi_of (show r2700.toInt = r2700.toInt from rfl) (by omega) (by omega))) dX0_giveFarms_135 (fun H locs hT oq m2778 oj hS => ?_)
                    have hF := hF.put hg2777 skc_10 oq oj (by decide)
                    have m2779 := m2754.kept (oq _ (gne hr_mk9 hg2777 (by decide)))
                    have m2780 := m2755.kept (oq _ (gne hr_hd9 hg2777 (by decide)))
                    have m2781 := m2756.kept (oq _ (gne hr_kn hg2777 (by decide)))
                    have m2782 := m2757.kept (oq _ (gne hr_sf hg2777 (by decide)))
                    have m2783 := m2758.kept (oq _ (gne hr_sto hg2777 (by decide)))
                    have m2784 := m2759.kept (oq _ (gne hr_stp9 hg2777 (by decide)))
                    have m2785 := (el_kept (oq _ (gne hr_o0 hg2777 (by decide)))).trans m2760
                    have m2786 := (el_kept (oq _ (gne hr_o0 hg2777 (by decide)))).trans m2761
                    have m2787 := (el_kept (oq _ (gne hr_o0 hg2777 (by decide)))).trans m2762
                    have m2788 := (el_kept (oq _ (gne hr_o0 hg2777 (by decide)))).trans m2763
                    have m2789 := (el_kept (oq _ (gne hr_o0 hg2777 (by decide)))).trans m2764
                    have m2790 := (el_kept (oq _ (gne hr_o0 hg2777 (by decide)))).trans m2765
                    have m2791 := (el_kept (oq _ (gne hr_o0 hg2777 (by decide)))).trans m2766
                    have m2792 := (el_kept (oq _ (gne hr_lw hg2777 (by decide)))).trans m2767
                    have m2793 := (el_kept (oq _ (gne hr_lw hg2777 (by decide)))).trans m2768
                    have m2794 := (el_kept (oq _ (gne hr_lw hg2777 (by decide)))).trans m2769
                    have m2795 := (el_kept (oq _ (gne hr_lw hg2777 (by decide)))).trans m2770
                    have m2796 := (el_kept (oq _ (gne hr_lw hg2777 (by decide)))).trans m2771
                    have m2797 := (el_kept (oq _ (gne hr_lw hg2777 (by decide)))).trans m2772
                    have m2798 := (el_kept (oq _ (gne hr_o0 hg2777 (by decide)))).trans m2773
                    refine lv_aload_n hx hb dX0_giveFarms_138 rfl (lv_at hl 4 rfl) ?_
                    refine tw_getM (v := .ref hd9) hx hb hts bF2_X0 hown hK hT hr_o0 shc_3 rfl 3 (by decide) (ht_at2 hts 11 rfl) (fun _ h9 => h9) m2786 dX0_giveFarms_139 ?_
                    refine lv_iload hx hb dX0_giveFarms_142 (lv_at hl 0 rfl) ?_
                    refine lv_iconst (v := 1) hx hb dX0_giveFarms_144 (by decide) ?_
                    refine tw_zast (i := r2700) (x := 1) hx hb hK hT hG hS hr_hd9 shc_54 rfl (vin_t (a := r2700.toInt) rfl (by omega) (by omega)) (gi_z (rg_t (a := 1) (by decide) (by first | decide | omega) (by first | decide | omega)) (by decide) (by decide)) dX0_giveFarms_145 (fun H locs hT oq m2802 oi hS => ?_)
                    have hF := hF.ast hr_hd9 skc_54 oq (by decide)
                    have m2803 := m2779.kept (oq _ (gne hr_mk9 hr_hd9 (by decide)))
                    have m2804 := m2780.put (show el H hd9 _ = some (.int 1) from m2802) oi
                    have m2805 := m2781.kept (oq _ (gne hr_kn hr_hd9 (by decide)))
                    have m2806 := m2782.kept (oq _ (gne hr_sf hr_hd9 (by decide)))
                    have m2807 := m2783.kept (oq _ (gne hr_sto hr_hd9 (by decide)))
                    have m2808 := m2784.kept (oq _ (gne hr_stp9 hr_hd9 (by decide)))
                    have m2809 := (el_kept (oq _ (gne hr_o0 hr_hd9 (by decide)))).trans m2785
                    have m2810 := (el_kept (oq _ (gne hr_o0 hr_hd9 (by decide)))).trans m2786
                    have m2811 := (el_kept (oq _ (gne hr_o0 hr_hd9 (by decide)))).trans m2787
                    have m2812 := (el_kept (oq _ (gne hr_o0 hr_hd9 (by decide)))).trans m2788
                    have m2813 := (el_kept (oq _ (gne hr_o0 hr_hd9 (by decide)))).trans m2789
                    have m2814 := (el_kept (oq _ (gne hr_o0 hr_hd9 (by decide)))).trans m2790
                    have m2815 := (el_kept (oq _ (gne hr_o0 hr_hd9 (by decide)))).trans m2791
                    have m2816 := (el_kept (oq _ (gne hr_lw hr_hd9 (by decide)))).trans m2792
                    have m2817 := (el_kept (oq _ (gne hr_lw hr_hd9 (by decide)))).trans m2793
                    have m2818 := (el_kept (oq _ (gne hr_lw hr_hd9 (by decide)))).trans m2794
                    have m2819 := (el_kept (oq _ (gne hr_lw hr_hd9 (by decide)))).trans m2795
                    have m2820 := (el_kept (oq _ (gne hr_lw hr_hd9 (by decide)))).trans m2796
                    have m2821 := (el_kept (oq _ (gne hr_lw hr_hd9 (by decide)))).trans m2797
                    have m2822 := (el_kept (oq _ (gne hr_o0 hr_hd9 (by decide)))).trans m2798
                    obtain ⟨x2827, ex2827⟩ : ∃ y : Int32, y = z2104 + 1 := ⟨_, rfl⟩
                    have t2828 : x2827.toInt = z2104.toInt + 1 := ti_add ex2827 rfl (by decide) (by omega) (by omega)
                    refine lv_iinc (v := x2827) (lv' := [(3, .int x2827), (6, .int r2700), (5, .int r2673), (4, .int (nI i2103)), (0, .ref o0), (1, .int p0), (2, .ref p1)]) hx hb dX0_giveFarms_146 hl (k := 3) rfl (by first | (rw [ex2827]; done) | (rw [ex2827]; rfl)) (by decide) rfl (fun ls hl => ?_)
                    refine lv_iinc (v := nI (i2103 + 1)) (lv' := [(4, .int (nI (i2103 + 1))), (3, .int x2827), (6, .int r2700), (5, .int r2673), (0, .ref o0), (1, .int p0), (2, .ref p1)]) hx hb dX0_giveFarms_149 hl (k := 3) rfl (nI_add i2103 1) (by decide) rfl (fun ls hl => ?_)
                    refine lv_goto (tgt := 81) hx hb dX0_giveFarms_152 (by decide) ?_
                    exact ih2554 (i2103 + 1) (by omega) (by omega) x2827 (cu V2106 r2673.toNatClampNeg (-1 : Int32)) (cu vh r2700.toNatClampNeg (1 : Int32)) ⟨(by have q9 := (show x2827.toInt = x2827.toInt from rfl); (try have q8 := ti_all x2827); omega), ⟨(by have := (show x2827.toInt = x2827.toInt from rfl); rw [zct_1 (by exact hnh _ (by have := tn_of (show r2700.toInt = r2700.toInt from rfl) (by omega); omega)) (by decide) 30 (by have := tn_of (show r2700.toInt = r2700.toInt from rfl) (by omega); omega)]; have := hct2672; omega), Or.inr ⟨by omega, by have := (show x2827.toInt = x2827.toInt from rfl); omega, by omega, hpm2667.yes (by omega) ((hf2696.resolve_left (fun h8 => by have := h8.1; omega)).2.2)⟩⟩, (by have := (show x2827.toInt = x2827.toInt from rfl); omega), (by omega)⟩ _ _ hT hF (fun h9 => absurd h9 (by omega)) hS m2803 m2804 m2805 m2806 m2807 m2808 m2809 m2810 m2811 m2812 m2813 m2814 m2815 m2816 m2817 m2818 m2819 m2820 m2821 m2822 ls (lv_sub hl [0, 1, 4, 5, 6] rfl)
                  · have t2829 : r2700.toInt = (-1) := ti_eq c2751 rfl (by decide)
                    refine lv_goto (tgt := 155) hx hb dX0_giveFarms_115 (by decide) ?_
                    refine lv_aload_n hx hb dX0_giveFarms_155 rfl (lv_at hl 4 rfl) ?_
                    refine lv_dup hx hb dX0_giveFarms_156 rfl ?_
                    refine tw_getM (v := .int hv0) hx hb hts bF2_X0 hown hK hT hr_o0 shc_3 rfl 15 (by decide) (ht_at2 hts 1 rfl) (fun _ h9 => h9) m2713 dX0_giveFarms_157 ?_
                    refine lv_iload_n hx hb dX0_giveFarms_160 rfl (lv_at hl 3 rfl) ?_
                    refine lv_iadd hx hb dX0_giveFarms_161 ?_
                    refine lv_topi (fun x2830 ex2830 => ?_)
                    have t2831 : x2830.toInt = hv0.toInt + z2104.toInt := ti_add ex2830 rfl rfl (by omega) (by omega)
                    refine tw_put (v := .int x2830) (ty := .int) hx hb hts bF2_X0 tyX0 tyX0_ok nmX0 hown hK hT hG hS hr_o0 shc_3 rfl 15 (by decide) (ht_at2 hts 1 rfl) (fun _ h9 => h9) rfl (by decide +kernel) rfl rfl (gl_at rfl (gi_all _)) dX0_giveFarms_162 (fun H locs hT oq m2832 oj hS => ?_)
                    have hF := hF.put hr_o0 skc_3 oq oj (by decide)
                    have hF2 := hF2.put hr_o0 skc_3 oq oj (by decide)
                    have m2834 := m2703.kept (oq _ (gne hr_hd9 hr_o0 (by decide)))
                    refine lv_iload_n hx hb dX0_giveFarms_165 rfl (lv_at hl 3 rfl) ?_
                    exact W.iret (v := z2104) hx hb hr (fun t ht hW => ⟨⟨z2104, (x2830, vh), rfl, (by exact ⟨(by have q8 := ti_all z2104; omega), (by have r9 := (show z2104.toInt = z2104.toInt from rfl); exact Or.inr ⟨by omega, fun h8 => by have := h8.2.1; have n9 := h8.2.2; rcases hf2696 with ⟨h7, h6⟩ | ⟨h7, h6, h5⟩; (exact (hpm2667.no (by omega) h6) n9); omega, rfl⟩), (by have := (show x2830.toInt = x2830.toInt from rfl); have := (show z2104.toInt = z2104.toInt from rfl); have := hct2672; exact ⟨by omega, by omega⟩)⟩), by (try dsimp only); rw [ht]; exact ⟨hT, hF, m2832, m2834, (fun _ => hF2)⟩⟩, hS.F ht⟩) hS.2.2 dX0_giveFarms_166
              · refine lv_aload_n hx hb dX0_giveFarms_87 rfl (lv_at hl 2 rfl) ?_
                have hFc := gA_free hG hA hS
                refine va_calli (va_runV (As := []) (rest := []) ⟨hx, hb, hml, hown, hts⟩ (c_firstByMark l dC dI kA adK adV G H nC nS o0 hT hr_o0 (by omega) (by omega)) (cwV 0 hts (goodIn_app (goodIn_r _ [6, 7, 8, 9] rfl (by decide +kernel)) (goodIn_ca (goodIn_r _ [3, 1, 4, 5] rfl (by decide +kernel)) (bs2_in _ _))) rfl rfl rfl (by decide +kernel) ⟨(Nat.le_of_ble_eq_true rfl), (Nat.le_of_ble_eq_true rfl)⟩) ⟨fun a U g mk q => by obtain ⟨q0, q1, qK, qE⟩ := q; exact ⟨q0, q1, va_K.moved (u := U) (U := U.calling g mk a) (Vm.Alike.refl U.vm) qK, EVC.blind g mk a qE⟩, gH_rc hK hT hr_o0 shc_3 rfl, fun U hU hW => ⟨rfl, hU, va_K.moved hW.alike hK, hE.call hS hFc hU hW⟩⟩ rfl rfl hl.1 rfl (lv_room (Nat.le_of_ble_eq_true rfl)) dX0_giveFarms_88 ⟨(Nat.le_of_ble_eq_true rfl), (Nat.le_of_ble_eq_true rfl)⟩) hS (fun q _ h => hFc q h) hFc (fun r2853 u t H locs ht hvm hw2854 hB _ _ hS => ?_)
                obtain ⟨hT, hF1⟩ := hB
                rw [ht] at hT hF1
                have m2855 := m2107.kept (hF1.arr hr_mk9 skc_57 (by decide))
                have m2856 := m2109.kept (hF1.arr hr_hd9 skc_54 (by decide))
                have m2857 := m2110.kept (hF1.arr hr_kn skc_42 (by decide))
                have m2858 := m2111.kept (hF1.arr hr_sf skc_47 (by decide))
                have m2859 := m2112.kept (hF1.arr hr_sto skc_48 (by decide))
                have m2860 := m2113.kept (hF1.arr hr_stp9 skc_49 (by decide))
                have m2861 := (hF1.fld hr_o0 skc_3 (k := 6) (by decide) (by decide)).trans m2114
                have m2862 := (hF1.fld hr_o0 skc_3 (k := 3) (by decide) (by decide)).trans m2115
                have m2863 := (hF1.fld hr_o0 skc_3 (k := 0) (by decide) (by decide)).trans m2116
                have m2864 := (hF1.fld hr_o0 skc_3 (k := 16) (by decide) (by decide)).trans m2117
                have m2865 := (hF1.fld hr_o0 skc_3 (k := 5) (by decide) (by decide)).trans m2118
                have m2866 := (hF1.fld hr_o0 skc_3 (k := 15) (by decide) (by decide)).trans m2119
                have m2867 := (hF1.fld hr_o0 skc_3 (k := 7) (by decide) (by decide)).trans m2120
                have m2868 := (hF1.fld hr_lw skc_7 (k := 2) (by decide) (by decide)).trans m2121
                have m2869 := (hF1.fld hr_lw skc_7 (k := 11) (by decide) (by decide)).trans m2122
                have m2870 := (hF1.fld hr_lw skc_7 (k := 7) (by decide) (by decide)).trans m2123
                have m2871 := (hF1.fld hr_lw skc_7 (k := 8) (by decide) (by decide)).trans m2124
                have m2872 := (hF1.fld hr_lw skc_7 (k := 9) (by decide) (by decide)).trans m2125
                have m2873 := (hF1.fld hr_lw skc_7 (k := 10) (by decide) (by decide)).trans m2126
                have m2874 := (hF1.fld hr_o0 skc_3 (k := 14) (by decide) (by decide)).trans m2127
                have hF := hF.more hF1 (by decide)
                try dsimp only at hw2854
                obtain ⟨h2875, hf2876⟩ := hw2854
                refine lv_istore (lv' := [(5, .int r2853), (4, .int (nI i2103)), (3, .int z2104), (0, .ref o0), (1, .int p0), (2, .ref p1)]) hx hb dX0_giveFarms_91 hl (by decide) rfl (fun ls hl => ?_)
                refine lv_aload_n hx hb dX0_giveFarms_93 rfl (lv_at hl 3 rfl) ?_
                refine lv_aload_n hx hb dX0_giveFarms_94 rfl (lv_at hl 5 rfl) ?_
                refine tw_getN hx hb hts bF2_X3 hown hK hT hr_p1 shc_6 rfl 1 (by decide) (hE.nw 73 rfl) (fun _ h9 => h9) dX0_giveFarms_95 (fun v9 m2877 h9 => ?_)
                obtain ⟨b2878, rfl, hg2879⟩ := h9 _ rfl
                have hFc := gA_free hG hA hS
                refine va_calli (va_runV (As := [.ref b2878]) (rest := []) ⟨hx, hb, hml, hown, hts⟩ (c_bestFreeFarmH l dC dI kA adK adV G H nC nS o0 b2878 hd9 V2108 hT hg2879 hr_o0 m2862 hr_hd9 m2856 (by omega) (by omega)) (cwV 1 hts (goodIn_app (goodIn_r _ [22, 23, 24, 9] rfl (by decide +kernel)) (goodIn_ca (goodIn_r _ [10, 11, 12, 13, 14, 15, 16, 17, 18, 19, 20, 21, 9] rfl (by decide +kernel)) (bs2_in _ _))) rfl rfl rfl (by decide +kernel) ⟨(Nat.le_of_ble_eq_true rfl), (Nat.le_of_ble_eq_true rfl)⟩) ⟨fun a U g mk q => by obtain ⟨q0, q1, qK, qE⟩ := q; exact ⟨q0, q1, va_K.moved (u := U) (U := U.calling g mk a) (Vm.Alike.refl U.vm) qK, EVC.blind g mk a qE⟩, gH_rc hK hT hr_o0 shc_3 rfl, fun U hU hW => ⟨rfl, hU, va_K.moved hW.alike hK, hE.call hS hFc hU hW⟩⟩ rfl rfl hl.1 rfl (lv_room (Nat.le_of_ble_eq_true rfl)) dX0_giveFarms_98 ⟨(Nat.le_of_ble_eq_true rfl), (Nat.le_of_ble_eq_true rfl)⟩) hS (fun q _ h => hFc q h) hFc (fun r2880 u t H locs ht hvm hw2881 hB _ _ hS => ?_)
                obtain ⟨hT, hF1⟩ := hB
                rw [ht] at hT hF1
                have m2882 := m2855.kept (hF1.arr hr_mk9 skc_57 (by decide))
                have m2883 := m2856.kept (hF1.arr hr_hd9 skc_54 (by decide))
                have m2884 := m2857.kept (hF1.arr hr_kn skc_42 (by decide))
                have m2885 := m2858.kept (hF1.arr hr_sf skc_47 (by decide))
                have m2886 := m2859.kept (hF1.arr hr_sto skc_48 (by decide))
                have m2887 := m2860.kept (hF1.arr hr_stp9 skc_49 (by decide))
                have m2888 := (hF1.fld hr_o0 skc_3 (k := 6) (by decide) (by decide)).trans m2861
                have m2889 := (hF1.fld hr_o0 skc_3 (k := 3) (by decide) (by decide)).trans m2862
                have m2890 := (hF1.fld hr_o0 skc_3 (k := 0) (by decide) (by decide)).trans m2863
                have m2891 := (hF1.fld hr_o0 skc_3 (k := 16) (by decide) (by decide)).trans m2864
                have m2892 := (hF1.fld hr_o0 skc_3 (k := 5) (by decide) (by decide)).trans m2865
                have m2893 := (hF1.fld hr_o0 skc_3 (k := 15) (by decide) (by decide)).trans m2866
                have m2894 := (hF1.fld hr_o0 skc_3 (k := 7) (by decide) (by decide)).trans m2867
                have m2895 := (hF1.fld hr_lw skc_7 (k := 2) (by decide) (by decide)).trans m2868
                have m2896 := (hF1.fld hr_lw skc_7 (k := 11) (by decide) (by decide)).trans m2869
                have m2897 := (hF1.fld hr_lw skc_7 (k := 7) (by decide) (by decide)).trans m2870
                have m2898 := (hF1.fld hr_lw skc_7 (k := 8) (by decide) (by decide)).trans m2871
                have m2899 := (hF1.fld hr_lw skc_7 (k := 9) (by decide) (by decide)).trans m2872
                have m2900 := (hF1.fld hr_lw skc_7 (k := 10) (by decide) (by decide)).trans m2873
                have m2901 := (hF1.fld hr_o0 skc_3 (k := 14) (by decide) (by decide)).trans m2874
                have hF := hF.more hF1 (by decide)
                try dsimp only at hw2881
                obtain ⟨h2903, hf2904⟩ := hw2881
                refine lv_istore (lv' := [(6, .int r2880), (5, .int r2853), (4, .int (nI i2103)), (3, .int z2104), (0, .ref o0), (1, .int p0), (2, .ref p1)]) hx hb dX0_giveFarms_101 hl (by decide) rfl (fun ls hl => ?_)
                refine lv_iload hx hb dX0_giveFarms_103 (lv_at hl 1 rfl) ?_
                refine lv_iconst (v := (-1)) hx hb dX0_giveFarms_105 (by decide) ?_
                refine lv_icmp_eq (tgt := 155) hx hb dX0_giveFarms_106 (by decide) (fun c2905 => ?_) (fun c2905 => ?_)
                · have t2906 : r2853.toInt = (-1) := ti_eq c2905 rfl (by decide)
                  refine lv_aload_n hx hb dX0_giveFarms_155 rfl (lv_at hl 4 rfl) ?_
                  refine lv_dup hx hb dX0_giveFarms_156 rfl ?_
                  refine tw_getM (v := .int hv0) hx hb hts bF2_X0 hown hK hT hr_o0 shc_3 rfl 15 (by decide) (ht_at2 hts 1 rfl) (fun _ h9 => h9) m2893 dX0_giveFarms_157 ?_
                  refine lv_iload_n hx hb dX0_giveFarms_160 rfl (lv_at hl 3 rfl) ?_
                  refine lv_iadd hx hb dX0_giveFarms_161 ?_
                  refine lv_topi (fun x2907 ex2907 => ?_)
                  have t2908 : x2907.toInt = hv0.toInt + z2104.toInt := ti_add ex2907 rfl rfl (by omega) (by omega)
                  refine tw_put (v := .int x2907) (ty := .int) hx hb hts bF2_X0 tyX0 tyX0_ok nmX0 hown hK hT hG hS hr_o0 shc_3 rfl 15 (by decide) (ht_at2 hts 1 rfl) (fun _ h9 => h9) rfl (by decide +kernel) rfl rfl (gl_at rfl (gi_all _)) dX0_giveFarms_162 (fun H locs hT oq m2909 oj hS => ?_)
                  have hF := hF.put hr_o0 skc_3 oq oj (by decide)
                  have m2911 := m2883.kept (oq _ (gne hr_hd9 hr_o0 (by decide)))
                  refine lv_iload_n hx hb dX0_giveFarms_165 rfl (lv_at hl 3 rfl) ?_
                  exact W.iret (v := z2104) hx hb hr (fun t ht hW => ⟨⟨z2104, (x2907, V2108), rfl, (by exact ⟨(by have q8 := ti_all z2104; omega), (by have r9 := (show z2104.toInt = z2104.toInt from rfl); exact Or.inl ⟨by omega, ⟨by omega, by omega⟩, hfm2670, hno2671⟩), (by have := (show x2907.toInt = x2907.toInt from rfl); have := (show z2104.toInt = z2104.toInt from rfl); have := hct2672; exact ⟨by omega, by omega⟩)⟩), by (try dsimp only); rw [ht]; exact ⟨hT, hF, m2909, m2911, (fun h9 => by exfalso; have h8 := congrArg Int32.toInt h9; have z8 : (0 : Int32).toInt = 0 := (by decide); have := (show x2907.toInt = x2907.toInt from rfl); omega)⟩⟩, hS.F ht⟩) hS.2.2 dX0_giveFarms_166
                · have t2930 : r2853.toInt ≠ (-1) := ti_ne c2905 rfl (by decide)
                  refine lv_iload hx hb dX0_giveFarms_109 (lv_at hl 0 rfl) ?_
                  refine lv_iconst (v := (-1)) hx hb dX0_giveFarms_111 (by decide) ?_
                  refine lv_icmp_ne (tgt := 118) hx hb dX0_giveFarms_112 (by decide) (fun c2931 => ?_) (fun c2931 => ?_)
                  · have t2932 : r2880.toInt ≠ (-1) := ti_ne c2931 rfl (by decide)
                    refine lv_aload_n hx hb dX0_giveFarms_118 rfl (lv_at hl 4 rfl) ?_
                    refine tw_getM (v := .ref mk9) hx hb hts bF2_X0 hown hK hT hr_o0 shc_3 rfl 6 (by decide) (ht_at2 hts 3 rfl) (fun _ h9 => h9) m2888 dX0_giveFarms_119 ?_
                    refine lv_iload hx hb dX0_giveFarms_122 (lv_at hl 1 rfl) ?_
                    refine lv_iconst (v := (-1)) hx hb dX0_giveFarms_124 (by decide) ?_
                    refine tw_iast (i := r2853) (x := (-1)) hx hb hK hT hG hS hr_mk9 shc_57 rfl (vin_t (a := r2853.toInt) rfl (by omega) (by omega)) (gi_all _) dX0_giveFarms_125 (fun H locs hT oq m2933 oi hS => ?_)
                    have hF := hF.ast hr_mk9 skc_57 oq (by decide)
                    have m2934 := m2882.put m2933 oi
                    have m2935 := m2883.kept (oq _ (gne hr_hd9 hr_mk9 (by decide)))
                    have m2936 := m2884.kept (oq _ (gne hr_kn hr_mk9 (by decide)))
                    have m2937 := m2885.kept (oq _ (gne hr_sf hr_mk9 (by decide)))
                    have m2938 := m2886.kept (oq _ (gne hr_sto hr_mk9 (by decide)))
                    have m2939 := m2887.kept (oq _ (gne hr_stp9 hr_mk9 (by decide)))
                    have m2940 := (el_kept (oq _ (gne hr_o0 hr_mk9 (by decide)))).trans m2888
                    have m2941 := (el_kept (oq _ (gne hr_o0 hr_mk9 (by decide)))).trans m2889
                    have m2942 := (el_kept (oq _ (gne hr_o0 hr_mk9 (by decide)))).trans m2890
                    have m2943 := (el_kept (oq _ (gne hr_o0 hr_mk9 (by decide)))).trans m2891
                    have m2944 := (el_kept (oq _ (gne hr_o0 hr_mk9 (by decide)))).trans m2892
                    have m2945 := (el_kept (oq _ (gne hr_o0 hr_mk9 (by decide)))).trans m2893
                    have m2946 := (el_kept (oq _ (gne hr_o0 hr_mk9 (by decide)))).trans m2894
                    have m2947 := (el_kept (oq _ (gne hr_lw hr_mk9 (by decide)))).trans m2895
                    have m2948 := (el_kept (oq _ (gne hr_lw hr_mk9 (by decide)))).trans m2896
                    have m2949 := (el_kept (oq _ (gne hr_lw hr_mk9 (by decide)))).trans m2897
                    have m2950 := (el_kept (oq _ (gne hr_lw hr_mk9 (by decide)))).trans m2898
                    have m2951 := (el_kept (oq _ (gne hr_lw hr_mk9 (by decide)))).trans m2899
                    have m2952 := (el_kept (oq _ (gne hr_lw hr_mk9 (by decide)))).trans m2900
                    have m2953 := (el_kept (oq _ (gne hr_o0 hr_mk9 (by decide)))).trans m2901
                    refine lv_aload_n hx hb dX0_giveFarms_126 rfl (lv_at hl 4 rfl) ?_
                    refine tw_getM (v := .ref sA) hx hb hts bF2_X0 hown hK hT hr_o0 shc_3 rfl 0 (by decide) (ht_at2 hts 4 rfl) (fun _ h9 => h9) m2942 dX0_giveFarms_127 ?_
                    refine lv_iload hx hb dX0_giveFarms_130 (lv_at hl 1 rfl) ?_
                    refine tw_aald (i := r2853) hx hb hK hT hr_sA shc_51 rfl (vin_t (a := r2853.toInt) rfl (by omega) (by omega)) dX0_giveFarms_132 (fun v9 m2955 h9 => ?_)
                    obtain ⟨b2956, rfl, hg2957⟩ := (h9.1 (by have q9 := tn_of (show r2853.toInt = r2853.toInt from rfl) (by omega); omega))
                    refine lv_iload hx hb dX0_giveFarms_133 (lv_at hl 0 rfl) ?_
                    refine tw_putN (v := .int r2880) (ty := .int) hx hb hts bF2_X7 tyX7 tyX7_ok nmX7 hown hK hT hG hS hg2957 shc_10 rfl 7 (by decide) (hE.nw 61 rfl) (fun _ h9 => h9) rfl (by decide +kernel) rfl rfl (gl_at rfl (gi_of (show r2880.toInt = r2880.toInt from rfl) (by omega) (by omega))) dX0_giveFarms_135 (fun H locs hT oq m2958 oj hS => ?_)
                    have hF := hF.put hg2957 skc_10 oq oj (by decide)
                    have m2959 := m2934.kept (oq _ (gne hr_mk9 hg2957 (by decide)))
                    have m2960 := m2935.kept (oq _ (gne hr_hd9 hg2957 (by decide)))
                    have m2961 := m2936.kept (oq _ (gne hr_kn hg2957 (by decide)))
                    have m2962 := m2937.kept (oq _ (gne hr_sf hg2957 (by decide)))
                    have m2963 := m2938.kept (oq _ (gne hr_sto hg2957 (by decide)))
                    have m2964 := m2939.kept (oq _ (gne hr_stp9 hg2957 (by decide)))
                    have m2965 := (el_kept (oq _ (gne hr_o0 hg2957 (by decide)))).trans m2940
                    have m2966 := (el_kept (oq _ (gne hr_o0 hg2957 (by decide)))).trans m2941
                    have m2967 := (el_kept (oq _ (gne hr_o0 hg2957 (by decide)))).trans m2942
                    have m2968 := (el_kept (oq _ (gne hr_o0 hg2957 (by decide)))).trans m2943
                    have m2969 := (el_kept (oq _ (gne hr_o0 hg2957 (by decide)))).trans m2944
                    have m2970 := (el_kept (oq _ (gne hr_o0 hg2957 (by decide)))).trans m2945
                    have m2971 := (el_kept (oq _ (gne hr_o0 hg2957 (by decide)))).trans m2946
                    have m2972 := (el_kept (oq _ (gne hr_lw hg2957 (by decide)))).trans m2947
                    have m2973 := (el_kept (oq _ (gne hr_lw hg2957 (by decide)))).trans m2948
                    have m2974 := (el_kept (oq _ (gne hr_lw hg2957 (by decide)))).trans m2949
                    have m2975 := (el_kept (oq _ (gne hr_lw hg2957 (by decide)))).trans m2950
                    have m2976 := (el_kept (oq _ (gne hr_lw hg2957 (by decide)))).trans m2951
                    have m2977 := (el_kept (oq _ (gne hr_lw hg2957 (by decide)))).trans m2952
                    have m2978 := (el_kept (oq _ (gne hr_o0 hg2957 (by decide)))).trans m2953
                    refine lv_aload_n hx hb dX0_giveFarms_138 rfl (lv_at hl 4 rfl) ?_
                    refine tw_getM (v := .ref hd9) hx hb hts bF2_X0 hown hK hT hr_o0 shc_3 rfl 3 (by decide) (ht_at2 hts 11 rfl) (fun _ h9 => h9) m2966 dX0_giveFarms_139 ?_
                    refine lv_iload hx hb dX0_giveFarms_142 (lv_at hl 0 rfl) ?_
                    refine lv_iconst (v := 1) hx hb dX0_giveFarms_144 (by decide) ?_
                    refine tw_zast (i := r2880) (x := 1) hx hb hK hT hG hS hr_hd9 shc_54 rfl (vin_t (a := r2880.toInt) rfl (by omega) (by omega)) (gi_z (rg_t (a := 1) (by decide) (by first | decide | omega) (by first | decide | omega)) (by decide) (by decide)) dX0_giveFarms_145 (fun H locs hT oq m2982 oi hS => ?_)
                    have hF := hF.ast hr_hd9 skc_54 oq (by decide)
                    have m2983 := m2959.kept (oq _ (gne hr_mk9 hr_hd9 (by decide)))
                    have m2984 := m2960.put (show el H hd9 _ = some (.int 1) from m2982) oi
                    have m2985 := m2961.kept (oq _ (gne hr_kn hr_hd9 (by decide)))
                    have m2986 := m2962.kept (oq _ (gne hr_sf hr_hd9 (by decide)))
                    have m2987 := m2963.kept (oq _ (gne hr_sto hr_hd9 (by decide)))
                    have m2988 := m2964.kept (oq _ (gne hr_stp9 hr_hd9 (by decide)))
                    have m2989 := (el_kept (oq _ (gne hr_o0 hr_hd9 (by decide)))).trans m2965
                    have m2990 := (el_kept (oq _ (gne hr_o0 hr_hd9 (by decide)))).trans m2966
                    have m2991 := (el_kept (oq _ (gne hr_o0 hr_hd9 (by decide)))).trans m2967
                    have m2992 := (el_kept (oq _ (gne hr_o0 hr_hd9 (by decide)))).trans m2968
                    have m2993 := (el_kept (oq _ (gne hr_o0 hr_hd9 (by decide)))).trans m2969
                    have m2994 := (el_kept (oq _ (gne hr_o0 hr_hd9 (by decide)))).trans m2970
                    have m2995 := (el_kept (oq _ (gne hr_o0 hr_hd9 (by decide)))).trans m2971
                    have m2996 := (el_kept (oq _ (gne hr_lw hr_hd9 (by decide)))).trans m2972
                    have m2997 := (el_kept (oq _ (gne hr_lw hr_hd9 (by decide)))).trans m2973
                    have m2998 := (el_kept (oq _ (gne hr_lw hr_hd9 (by decide)))).trans m2974
                    have m2999 := (el_kept (oq _ (gne hr_lw hr_hd9 (by decide)))).trans m2975
                    have m3000 := (el_kept (oq _ (gne hr_lw hr_hd9 (by decide)))).trans m2976
                    have m3001 := (el_kept (oq _ (gne hr_lw hr_hd9 (by decide)))).trans m2977
                    have m3002 := (el_kept (oq _ (gne hr_o0 hr_hd9 (by decide)))).trans m2978
                    obtain ⟨x3007, ex3007⟩ : ∃ y : Int32, y = z2104 + 1 := ⟨_, rfl⟩
                    have t3008 : x3007.toInt = z2104.toInt + 1 := ti_add ex3007 rfl (by decide) (by omega) (by omega)
                    refine lv_iinc (v := x3007) (lv' := [(3, .int x3007), (6, .int r2880), (5, .int r2853), (4, .int (nI i2103)), (0, .ref o0), (1, .int p0), (2, .ref p1)]) hx hb dX0_giveFarms_146 hl (k := 3) rfl (by first | (rw [ex3007]; done) | (rw [ex3007]; rfl)) (by decide) rfl (fun ls hl => ?_)
                    refine lv_iinc (v := nI (i2103 + 1)) (lv' := [(4, .int (nI (i2103 + 1))), (3, .int x3007), (6, .int r2880), (5, .int r2853), (0, .ref o0), (1, .int p0), (2, .ref p1)]) hx hb dX0_giveFarms_149 hl (k := 3) rfl (nI_add i2103 1) (by decide) rfl (fun ls hl => ?_)
                    refine lv_goto (tgt := 81) hx hb dX0_giveFarms_152 (by decide) ?_
                    exact ih2554 (i2103 + 1) (by omega) (by omega) x3007 (cu V2106 r2853.toNatClampNeg (-1 : Int32)) (cu V2108 r2880.toNatClampNeg (1 : Int32)) ⟨(by have q9 := (show x3007.toInt = x3007.toInt from rfl); (try have q8 := ti_all x3007); omega), ⟨(by have := (show x3007.toInt = x3007.toInt from rfl); rw [zct_1 (by exact (hf2904.resolve_left (fun h8 => by omega)).2.2) (by decide) 30 (by have := tn_of (show r2880.toInt = r2880.toInt from rfl) (by omega); omega)]; have := hct2672; omega), Or.inr ⟨by omega, by have := (show x3007.toInt = x3007.toInt from rfl); omega, hfm2670, hno2671⟩⟩, (by have := (show x3007.toInt = x3007.toInt from rfl); omega), (by omega)⟩ _ _ hT hF (fun h9 => absurd h9 (by omega)) hS m2983 m2984 m2985 m2986 m2987 m2988 m2989 m2990 m2991 m2992 m2993 m2994 m2995 m2996 m2997 m2998 m2999 m3000 m3001 m3002 ls (lv_sub hl [0, 1, 4, 5, 6] rfl)
                  · have t3009 : r2880.toInt = (-1) := ti_eq c2931 rfl (by decide)
                    refine lv_goto (tgt := 155) hx hb dX0_giveFarms_115 (by decide) ?_
                    refine lv_aload_n hx hb dX0_giveFarms_155 rfl (lv_at hl 4 rfl) ?_
                    refine lv_dup hx hb dX0_giveFarms_156 rfl ?_
                    refine tw_getM (v := .int hv0) hx hb hts bF2_X0 hown hK hT hr_o0 shc_3 rfl 15 (by decide) (ht_at2 hts 1 rfl) (fun _ h9 => h9) m2893 dX0_giveFarms_157 ?_
                    refine lv_iload_n hx hb dX0_giveFarms_160 rfl (lv_at hl 3 rfl) ?_
                    refine lv_iadd hx hb dX0_giveFarms_161 ?_
                    refine lv_topi (fun x3010 ex3010 => ?_)
                    have t3011 : x3010.toInt = hv0.toInt + z2104.toInt := ti_add ex3010 rfl rfl (by omega) (by omega)
                    refine tw_put (v := .int x3010) (ty := .int) hx hb hts bF2_X0 tyX0 tyX0_ok nmX0 hown hK hT hG hS hr_o0 shc_3 rfl 15 (by decide) (ht_at2 hts 1 rfl) (fun _ h9 => h9) rfl (by decide +kernel) rfl rfl (gl_at rfl (gi_all _)) dX0_giveFarms_162 (fun H locs hT oq m3012 oj hS => ?_)
                    have hF := hF.put hr_o0 skc_3 oq oj (by decide)
                    have m3014 := m2883.kept (oq _ (gne hr_hd9 hr_o0 (by decide)))
                    refine lv_iload_n hx hb dX0_giveFarms_165 rfl (lv_at hl 3 rfl) ?_
                    exact W.iret (v := z2104) hx hb hr (fun t ht hW => ⟨⟨z2104, (x3010, V2108), rfl, (by exact ⟨(by have q8 := ti_all z2104; omega), (by have r9 := (show z2104.toInt = z2104.toInt from rfl); exact Or.inl ⟨by omega, ⟨by omega, by omega⟩, hfm2670, hno2671⟩), (by have := (show x3010.toInt = x3010.toInt from rfl); have := (show z2104.toInt = z2104.toInt from rfl); have := hct2672; exact ⟨by omega, by omega⟩)⟩), by (try dsimp only); rw [ht]; exact ⟨hT, hF, m3012, m3014, (fun h9 => by exfalso; have h8 := congrArg Int32.toInt h9; have z8 : (0 : Int32).toInt = 0 := (by decide); have := (show x3010.toInt = x3010.toInt from rfl); omega)⟩⟩, hS.F ht⟩) hS.2.2 dX0_giveFarms_166
        exact key2554 (60 - 0) 0 (by omega) (Nat.le_refl _) 0 V2 vh ⟨(by have q9 := (show (0 : Int32).toInt = 0 from (by decide)); (try have q8 := ti_all (0 : Int32)); omega), ⟨hct, Or.inl ⟨by omega, by decide, rfl, by rw [show nS.toNat = i1 from by omega]; exact hj22⟩⟩, (by have := (show (0 : Int32).toInt = 0 from (by decide)); omega), (by omega)⟩ _ _ hT hF (fun _ => hF2) hS m3 m4 m5 m6 m7 m8 m9 m10 m11 m12 m13 m14 m15 m16 m17 m18 m19 m20 m21 m2099 ls (lv_sub hl [0, 1, 2, 3, 4] rfl)
      · have t3033 : ((i1 : Nat) : Int) < x2100.toInt := ti_nle c2101 rfl (nI_toInt (by omega))
        refine lv_aload_n hx hb dX0_giveFarms_10 rfl (lv_at hl 1 rfl) ?_
        refine lv_aload_n hx hb dX0_giveFarms_11 rfl (lv_at hl 1 rfl) ?_
        refine tw_getM (v := .ref sA) hx hb hts bF2_X0 hown hK hT hr_o0 shc_3 rfl 0 (by decide) (ht_at2 hts 4 rfl) (fun _ h9 => h9) m11 dX0_giveFarms_12 ?_
        refine lv_iload_n hx hb dX0_giveFarms_15 rfl (lv_at hl 0 rfl) ?_
        refine tw_aald (i := (nI i1)) hx hb hK hT hr_sA shc_51 rfl (vp_in_nI (by omega) (by decide)) dX0_giveFarms_16 (fun v9 m3034 h9 => ?_)
        obtain ⟨b3035, rfl, hg3036⟩ := (h9.1 (by have q9 := tn_of (show (nI i1).toInt = ((i1 : Nat) : Int) from (nI_toInt (by omega))) (by omega); omega))
        have fs3037 := hFS (nI i1).toNatClampNeg (by have := tn_of (show (nI i1).toInt = ((i1 : Nat) : Int) from (nI_toInt (by omega))) (by omega); omega) b3035 ((el_kept (hF2.arr hr_sA skc_51 (by decide))).symm.trans m3034)
        rw [tn_nI (by omega)] at fs3037
        have m3038 := (hF2.fld hg3036 skc_10 (k := 7) (by decide) (by decide)).trans fs3037.1
        have m3039 := (hF2.fld hg3036 skc_10 (k := 8) (by decide) (by decide)).trans fs3037.2.1
        have m3040 := (hF2.fld hg3036 skc_10 (k := 9) (by decide) (by decide)).trans fs3037.2.2.1
        have m3041 := (hF2.fld hg3036 skc_10 (k := 0) (by decide) (by decide)).trans fs3037.2.2.2.1
        obtain ⟨x3042, ex3042⟩ : ∃ y : Int32, y = vA i1 := ⟨_, rfl⟩
        rw [← ex3042] at m3041
        have m3043 := (hF2.fld hg3036 skc_10 (k := 1) (by decide) (by decide)).trans fs3037.2.2.2.2.1
        obtain ⟨x3044, ex3044⟩ : ∃ y : Int32, y = vD i1 := ⟨_, rfl⟩
        rw [← ex3044] at m3043
        have m3045 := (hF2.fld hg3036 skc_10 (k := 6) (by decide) (by decide)).trans fs3037.2.2.2.2.2.1
        obtain ⟨x3046, ex3046⟩ : ∃ y : Int32, y = vC i1 := ⟨_, rfl⟩
        rw [← ex3046] at m3045
        have m3047 := (hF2.fld hg3036 skc_10 (k := 2) (by decide) (by decide)).trans fs3037.2.2.2.2.2.2.1
        obtain ⟨x3048, ex3048⟩ : ∃ y : Int32, y = vU i1 := ⟨_, rfl⟩
        rw [← ex3048] at m3047
        have m3049 := (hF2.fld hg3036 skc_10 (k := 3) (by decide) (by decide)).trans fs3037.2.2.2.2.2.2.2.1
        obtain ⟨x3050, ex3050⟩ : ∃ y : Int32, y = vI i1 := ⟨_, rfl⟩
        rw [← ex3050] at m3049
        have h3051 : 0 ≤ x3050.toInt ∧ x3050.toInt ≤ 1 := by obtain ⟨v9, e9, h9⟩ := gH_fld hT hg3036 shc_10 (k := 3) (by decide); rw [m3049] at e9; cases e9; obtain ⟨y9, z9, a9, b9⟩ := h9 _ rfl; cases z9; exact ⟨a9, b9⟩
        have m3052 := (hF2.fld hg3036 skc_10 (k := 4) (by decide) (by decide)).trans fs3037.2.2.2.2.2.2.2.2
        obtain ⟨x3053, ex3053⟩ : ∃ y : Int32, y = vW i1 := ⟨_, rfl⟩
        rw [← ex3053] at m3052
        have h3054 : 0 ≤ x3053.toInt ∧ x3053.toInt ≤ 1 := by obtain ⟨v9, e9, h9⟩ := gH_fld hT hg3036 shc_10 (k := 4) (by decide); rw [m3052] at e9; cases e9; obtain ⟨y9, z9, a9, b9⟩ := h9 _ rfl; cases z9; exact ⟨a9, b9⟩
        refine lv_aload_n hx hb dX0_giveFarms_17 rfl (lv_at hl 3 rfl) ?_
        obtain ⟨V3055, m3056⟩ := ctl_of hT hr_fa9 shc_56
        have hFc := gA_free hG hA hS
        refine va_callv (va_runV (As := [.ref b3035, .ref p1]) (rest := []) ⟨hx, hb, hml, hown, hts⟩ (c_gatherFactsZ l dC dI kA adK adV G H nC nS o0 b3035 p1 fa9 (-1) 0 x3042 x3044 x3046 x3048 x3050 x3053 0 V3055 hT hg3036 hr_p1 hr_o0 m13 hr_fa9 m3038 m3039 m3041 m3043 m3045 m3047 m3049 m3052 m3040 (rg_t (a := (-1)) (by decide) (by first | decide | omega) (by first | decide | omega)) (by have q8 := ti_all x3050; omega) (by have q8 := ti_all x3053; omega) m3056 (by omega) (by omega)) (cwV 2 hts (goodIn_app (goodIn_r _ [35, 36, 37, 9] rfl (by decide +kernel)) (goodIn_ca (goodIn_r _ [25, 26, 27, 28, 29, 30, 9, 31, 32, 33, 34] rfl (by decide +kernel)) (bs2_in _ _))) rfl rfl rfl (by decide +kernel) ⟨(Nat.le_of_ble_eq_true rfl), (Nat.le_of_ble_eq_true rfl)⟩) ⟨fun a U g mk q => by obtain ⟨q0, q1, qK, qE⟩ := q; exact ⟨q0, q1, va_K.moved (u := U) (U := U.calling g mk a) (Vm.Alike.refl U.vm) qK, EVC.blind g mk a qE⟩, gH_rc hK hT hr_o0 shc_3 rfl, fun U hU hW => ⟨rfl, hU, va_K.moved hW.alike hK, hE.call hS hFc hU hW⟩⟩ rfl rfl hl.1 rfl (lv_room (Nat.le_of_ble_eq_true rfl)) dX0_giveFarms_18 ⟨(Nat.le_of_ble_eq_true rfl), (Nat.le_of_ble_eq_true rfl)⟩) hS (fun q _ h => hFc q h) hFc (fun u t H locs ht hvm hw3058 hB _ _ hS => ?_)
        obtain ⟨u3059, rfl⟩ : ∃ z, z = u := ⟨_, rfl⟩
        obtain ⟨hT, hF1, m3060⟩ := hB
        rw [ht] at hT hF1 m3060
        have m3061 := m3.kept (hF1.arr hr_mk9 skc_57 (by decide))
        have m3062 := m4.kept (hF1.arr hr_hd9 skc_54 (by decide))
        have m3063 := m5.kept (hF1.arr hr_kn skc_42 (by decide))
        have m3064 := m6.kept (hF1.arr hr_sf skc_47 (by decide))
        have m3065 := m7.kept (hF1.arr hr_sto skc_48 (by decide))
        have m3066 := m8.kept (hF1.arr hr_stp9 skc_49 (by decide))
        have m3067 := (hF1.fld hr_o0 skc_3 (k := 6) (by decide) (by decide)).trans m9
        have m3068 := (hF1.fld hr_o0 skc_3 (k := 3) (by decide) (by decide)).trans m10
        have m3069 := (hF1.fld hr_o0 skc_3 (k := 0) (by decide) (by decide)).trans m11
        have m3070 := (hF1.fld hr_o0 skc_3 (k := 16) (by decide) (by decide)).trans m12
        have m3071 := (hF1.fld hr_o0 skc_3 (k := 5) (by decide) (by decide)).trans m13
        have m3072 := (hF1.fld hr_o0 skc_3 (k := 15) (by decide) (by decide)).trans m14
        have m3073 := (hF1.fld hr_o0 skc_3 (k := 7) (by decide) (by decide)).trans m15
        have m3074 := (hF1.fld hr_lw skc_7 (k := 2) (by decide) (by decide)).trans m16
        have m3075 := (hF1.fld hr_lw skc_7 (k := 11) (by decide) (by decide)).trans m17
        have m3076 := (hF1.fld hr_lw skc_7 (k := 7) (by decide) (by decide)).trans m18
        have m3077 := (hF1.fld hr_lw skc_7 (k := 8) (by decide) (by decide)).trans m19
        have m3078 := (hF1.fld hr_lw skc_7 (k := 9) (by decide) (by decide)).trans m20
        have m3079 := (hF1.fld hr_lw skc_7 (k := 10) (by decide) (by decide)).trans m21
        have m3081 := (el_kept (hF1.arr hr_sA skc_51 (by decide))).trans m3034
        have m3082 := (hF1.fld hg3036 skc_10 (k := 7) (by decide) (by decide)).trans m3038
        have hF := hF.more hF1 (by decide)
        have hF2 := hF2.more hF1 (by decide)
        try dsimp only at hw3058
        have hf3092 := hw3058
        refine lv_aload_n hx hb dX0_giveFarms_21 rfl (lv_at hl 1 rfl) ?_
        refine tw_getM (v := .ref sA) hx hb hts bF2_X0 hown hK hT hr_o0 shc_3 rfl 0 (by decide) (ht_at2 hts 4 rfl) (fun _ h9 => h9) m3069 dX0_giveFarms_22 ?_
        refine lv_iload_n hx hb dX0_giveFarms_25 rfl (lv_at hl 0 rfl) ?_
        refine tw_aald (i := (nI i1)) hx hb hK hT hr_sA shc_51 rfl (vp_in_nI (by omega) (by decide)) dX0_giveFarms_26 (fun v9 m3093 h9 => ?_)
        obtain ⟨b3094, rfl, hg3095⟩ := (h9.1 (by have q9 := tn_of (show (nI i1).toInt = ((i1 : Nat) : Int) from (nI_toInt (by omega))) (by omega); omega))
        obtain rfl : b3035 = b3094 := (el_sameR m3093 m3081 (show (nI i1).toInt = (nI i1).toInt from by have q9 := (show (nI i1).toInt = ((i1 : Nat) : Int) from (nI_toInt (by omega))); have q8 := (show (nI i1).toInt = ((i1 : Nat) : Int) from (nI_toInt (by omega))); omega)).symm
        refine tw_getNM (v := .int (-1)) hx hb hts bF2_X7 hown hK hT hg3036 shc_10 rfl 7 (by decide) (hE.nw 61 rfl) (fun _ h9 => h9) m3082 dX0_giveFarms_27 ?_
        refine lv_iconst (v := (-1)) hx hb dX0_giveFarms_30 (by decide) ?_
        refine lv_icmp_ne (tgt := 47) hx hb dX0_giveFarms_31 (by decide) (fun c3096 => absurd c3096 (by decide)) (fun c3096 => ?_)
        refine lv_aload_n hx hb dX0_giveFarms_34 rfl (lv_at hl 1 rfl) ?_
        refine lv_bipush (v := 6) hx hb dX0_giveFarms_35 (by decide) ?_
        obtain ⟨V3097, m3098⟩ := ctl_of hT hr_stk shc_50
        have hFc := gA_free hG hA hS
        refine va_calli (va_runV (As := [.int 6]) (rest := []) ⟨hx, hb, hml, hown, hts⟩ (c_isRuledZ l dC dI kA adK adV G H nC nS o0 lw kn ln sf sto stp9 stk fa9 vK vF vT vS V3097 u3059 A9 ((zLs (fun _ => 0) vA vD vC vU vI vW (fun _ => 0)) i1) hT hr_o0 m3073 hr_lw m3074 hr_kn m3075 m3076 hr_sf m3077 hr_sto m3078 hr_stp9 m3079 hr_stk m3071 hr_fa9 (by have q8 := ti_all ln; omega) hrp hzk hln (by have f9 := hf3092; rw [ex3042, ex3044, ex3046, ex3048, ex3050, ex3053] at f9; exact f9) m3063 m3064 m3065 m3066 m3098 m3060 (by omega) (by omega)) (cwV 1 hts (goodIn_app (goodIn_r _ [61, 62, 63, 9] rfl (by decide +kernel)) (goodIn_ca (goodIn_r _ [38, 39, 26, 40, 41, 42, 43, 44, 45, 46, 47, 48, 49, 50, 17, 51, 52, 53, 54, 55, 56, 57, 58, 59, 60] rfl (by decide +kernel)) (bs2_in _ _))) rfl rfl rfl (by decide +kernel) ⟨(Nat.le_of_ble_eq_true rfl), (Nat.le_of_ble_eq_true rfl)⟩) ⟨fun a U g mk q => by obtain ⟨q0, q1, qK, qE⟩ := q; exact ⟨q0, q1, va_K.moved (u := U) (U := U.calling g mk a) (Vm.Alike.refl U.vm) qK, EVC.blind g mk a qE⟩, gH_rc hK hT hr_o0 shc_3 rfl, fun U hU hW => ⟨rfl, hU, va_K.moved hW.alike hK, hE.call hS hFc hU hW⟩⟩ rfl rfl hl.1 rfl (lv_room (Nat.le_of_ble_eq_true rfl)) dX0_giveFarms_37 ⟨(Nat.le_of_ble_eq_true rfl), (Nat.le_of_ble_eq_true rfl)⟩) hS (fun q _ h => hFc q h) hFc (fun r3099 u t H locs ht hvm hw3100 hB _ _ hS => ?_)
        obtain ⟨hT, hF1⟩ := hB
        rw [ht] at hT hF1
        have m3101 := m3061.kept (hF1.arr hr_mk9 skc_57 (by decide))
        have m3102 := m3062.kept (hF1.arr hr_hd9 skc_54 (by decide))
        have m3103 := m3063.kept (hF1.arr hr_kn skc_42 (by decide))
        have m3104 := m3064.kept (hF1.arr hr_sf skc_47 (by decide))
        have m3105 := m3065.kept (hF1.arr hr_sto skc_48 (by decide))
        have m3106 := m3066.kept (hF1.arr hr_stp9 skc_49 (by decide))
        have m3107 := (hF1.fld hr_o0 skc_3 (k := 6) (by decide) (by decide)).trans m3067
        have m3108 := (hF1.fld hr_o0 skc_3 (k := 3) (by decide) (by decide)).trans m3068
        have m3109 := (hF1.fld hr_o0 skc_3 (k := 0) (by decide) (by decide)).trans m3069
        have m3110 := (hF1.fld hr_o0 skc_3 (k := 16) (by decide) (by decide)).trans m3070
        have m3111 := (hF1.fld hr_o0 skc_3 (k := 5) (by decide) (by decide)).trans m3071
        have m3112 := (hF1.fld hr_o0 skc_3 (k := 15) (by decide) (by decide)).trans m3072
        have m3113 := (hF1.fld hr_o0 skc_3 (k := 7) (by decide) (by decide)).trans m3073
        have m3114 := (hF1.fld hr_lw skc_7 (k := 2) (by decide) (by decide)).trans m3074
        have m3115 := (hF1.fld hr_lw skc_7 (k := 11) (by decide) (by decide)).trans m3075
        have m3116 := (hF1.fld hr_lw skc_7 (k := 7) (by decide) (by decide)).trans m3076
        have m3117 := (hF1.fld hr_lw skc_7 (k := 8) (by decide) (by decide)).trans m3077
        have m3118 := (hF1.fld hr_lw skc_7 (k := 9) (by decide) (by decide)).trans m3078
        have m3119 := (hF1.fld hr_lw skc_7 (k := 10) (by decide) (by decide)).trans m3079
        have hF := hF.more hF1 (by decide)
        have hF2 := hF2.more hF1 (by decide)
        try dsimp only at hw3100
        obtain ⟨h3133, hf3134⟩ := hw3100
        refine lv_if_ne (tgt := 47) hx hb dX0_giveFarms_40 (by decide) (fun c3135 => ?_) (fun c3135 => ?_)
        · have t3136 : r3099.toInt ≠ 0 := ti_ne c3135 rfl (by decide)
          refine lv_iconst (v := 0) hx hb dX0_giveFarms_47 (by decide) ?_
          refine lv_istore (lv' := [(4, .int 0), (3, .int (nI i1)), (0, .ref o0), (1, .int p0), (2, .ref p1)]) hx hb dX0_giveFarms_48 hl (by decide) rfl (fun ls hl => ?_)
          refine lv_aload_n hx hb dX0_giveFarms_50 rfl (lv_at hl 2 rfl) ?_
          refine tw_getM (v := .ref mk9) hx hb hts bF2_X0 hown hK hT hr_o0 shc_3 rfl 6 (by decide) (ht_at2 hts 3 rfl) (fun _ h9 => h9) m3107 dX0_giveFarms_51 ?_
          refine lv_iload_n hx hb dX0_giveFarms_54 rfl (lv_at hl 1 rfl) ?_
          refine lv_iload hx hb dX0_giveFarms_55 (lv_at hl 0 rfl) ?_
          refine lv_if_eq (tgt := 68) hx hb dX0_giveFarms_57 (by decide) (fun c3137 => ?_) (fun c3137 => absurd c3137 (by decide))
          refine lv_iconst (v := (-1)) hx hb dX0_giveFarms_68 (by decide) ?_
          refine tw_iast (i := (nI i1)) (x := (-1)) hx hb hK hT hG hS hr_mk9 shc_57 rfl (vp_in_nI (by omega) (by decide)) (gi_all _) dX0_giveFarms_69 (fun H locs hT oq m3138 oi hS => ?_)
          have hF := hF.ast hr_mk9 skc_57 oq (by decide)
          have hF2 := hF2.ast hr_mk9 skc_57 oq (by decide)
          have m3139 := m3101.put m3138 oi
          have m3140 := m3102.kept (oq _ (gne hr_hd9 hr_mk9 (by decide)))
          have m3141 := m3103.kept (oq _ (gne hr_kn hr_mk9 (by decide)))
          have m3142 := m3104.kept (oq _ (gne hr_sf hr_mk9 (by decide)))
          have m3143 := m3105.kept (oq _ (gne hr_sto hr_mk9 (by decide)))
          have m3144 := m3106.kept (oq _ (gne hr_stp9 hr_mk9 (by decide)))
          have m3145 := (el_kept (oq _ (gne hr_o0 hr_mk9 (by decide)))).trans m3107
          have m3146 := (el_kept (oq _ (gne hr_o0 hr_mk9 (by decide)))).trans m3108
          have m3147 := (el_kept (oq _ (gne hr_o0 hr_mk9 (by decide)))).trans m3109
          have m3148 := (el_kept (oq _ (gne hr_o0 hr_mk9 (by decide)))).trans m3110
          have m3149 := (el_kept (oq _ (gne hr_o0 hr_mk9 (by decide)))).trans m3111
          have m3150 := (el_kept (oq _ (gne hr_o0 hr_mk9 (by decide)))).trans m3112
          have m3151 := (el_kept (oq _ (gne hr_o0 hr_mk9 (by decide)))).trans m3113
          have m3152 := (el_kept (oq _ (gne hr_lw hr_mk9 (by decide)))).trans m3114
          have m3153 := (el_kept (oq _ (gne hr_lw hr_mk9 (by decide)))).trans m3115
          have m3154 := (el_kept (oq _ (gne hr_lw hr_mk9 (by decide)))).trans m3116
          have m3155 := (el_kept (oq _ (gne hr_lw hr_mk9 (by decide)))).trans m3117
          have m3156 := (el_kept (oq _ (gne hr_lw hr_mk9 (by decide)))).trans m3118
          have m3157 := (el_kept (oq _ (gne hr_lw hr_mk9 (by decide)))).trans m3119
          refine lv_iinc (v := nI (i1 + 1)) (lv' := [(3, .int (nI (i1 + 1))), (4, .int 0), (0, .ref o0), (1, .int p0), (2, .ref p1)]) hx hb dX0_giveFarms_70 hl (k := 1) rfl (nI_add i1 1) (by decide) rfl (fun ls hl => ?_)
          refine lv_goto (tgt := 2) hx hb dX0_giveFarms_73 (by decide) ?_
          exact ih1163 (i1 + 1) (by omega) (by omega) (cu V2 (nI i1).toNatClampNeg (-1 : Int32)) ⟨(zPm_s hj22 (tn_nI (by omega)) (by have x9 := (show (-1 : Int32).toInt = (-1) from (by decide)); rcases hf3134 with ⟨h8, h7⟩ | ⟨h8, h7⟩; (exact Or.inr ⟨by omega, h7⟩); exact Or.inl ⟨by omega, h7⟩)), (by omega)⟩ _ _ hT hF hF2 hS m3139 m3140 m3141 m3142 m3143 m3144 m3145 m3146 m3147 m3148 m3149 m3150 m3151 m3152 m3153 m3154 m3155 m3156 m3157 ls (lv_sub hl [0, 2, 3, 4] rfl)
        · have t3170 : r3099.toInt = 0 := ti_eq c3135 rfl (by decide)
          refine lv_iconst (v := 1) hx hb dX0_giveFarms_43 (by decide) ?_
          refine lv_goto (tgt := 48) hx hb dX0_giveFarms_44 (by decide) ?_
          refine lv_istore (lv' := [(4, .int 1), (3, .int (nI i1)), (0, .ref o0), (1, .int p0), (2, .ref p1)]) hx hb dX0_giveFarms_48 hl (by decide) rfl (fun ls hl => ?_)
          refine lv_aload_n hx hb dX0_giveFarms_50 rfl (lv_at hl 2 rfl) ?_
          refine tw_getM (v := .ref mk9) hx hb hts bF2_X0 hown hK hT hr_o0 shc_3 rfl 6 (by decide) (ht_at2 hts 3 rfl) (fun _ h9 => h9) m3107 dX0_giveFarms_51 ?_
          refine lv_iload_n hx hb dX0_giveFarms_54 rfl (lv_at hl 1 rfl) ?_
          refine lv_iload hx hb dX0_giveFarms_55 (lv_at hl 0 rfl) ?_
          refine lv_if_eq (tgt := 68) hx hb dX0_giveFarms_57 (by decide) (fun c3171 => absurd c3171 (by decide)) (fun c3171 => ?_)
          refine lv_aload_n hx hb dX0_giveFarms_60 rfl (lv_at hl 2 rfl) ?_
          refine lv_iconst (v := 4) hx hb dX0_giveFarms_61 (by decide) ?_
          have hFc := gA_free hG hA hS
          refine va_calli (va_runV (As := [.int 4]) (rest := [.int (nI i1), .ref mk9]) ⟨hx, hb, hml, hown, hts⟩ (c_ruledN l dC dI kA adK adV G H nC nS o0 4 hT hr_o0 (by omega) (by omega)) (cwV 1 hts (goodIn_app (goodIn_r _ [70, 71, 72, 9] rfl (by decide +kernel)) (goodIn_ca (goodIn_r _ [64, 39, 26, 65, 41, 42, 43, 44, 45, 46, 47, 48, 49, 50, 17, 51, 52, 53, 54, 55, 56, 57, 66, 67, 68, 69] rfl (by decide +kernel)) (bs2_in _ _))) rfl rfl rfl (by decide +kernel) ⟨(Nat.le_of_ble_eq_true rfl), (Nat.le_of_ble_eq_true rfl)⟩) ⟨fun a U g mk q => by obtain ⟨q0, q1, qK, qE⟩ := q; exact ⟨q0, q1, va_K.moved (u := U) (U := U.calling g mk a) (Vm.Alike.refl U.vm) qK, EVC.blind g mk a qE⟩, gH_rc hK hT hr_o0 shc_3 rfl, fun U hU hW => ⟨rfl, hU, va_K.moved hW.alike hK, hE.call hS hFc hU hW⟩⟩ rfl rfl hl.1 rfl (lv_room (Nat.le_of_ble_eq_true rfl)) dX0_giveFarms_62 ⟨(Nat.le_of_ble_eq_true rfl), (Nat.le_of_ble_eq_true rfl)⟩) hS (fun q _ h => hFc q h) hFc (fun r3172 u t H locs ht hvm hw3173 hB _ _ hS => ?_)
          obtain ⟨hT, hF1⟩ := hB
          rw [ht] at hT hF1
          have m3174 := m3101.kept (hF1.arr hr_mk9 skc_57 (by decide))
          have m3175 := m3102.kept (hF1.arr hr_hd9 skc_54 (by decide))
          have m3176 := m3103.kept (hF1.arr hr_kn skc_42 (by decide))
          have m3177 := m3104.kept (hF1.arr hr_sf skc_47 (by decide))
          have m3178 := m3105.kept (hF1.arr hr_sto skc_48 (by decide))
          have m3179 := m3106.kept (hF1.arr hr_stp9 skc_49 (by decide))
          have m3180 := (hF1.fld hr_o0 skc_3 (k := 6) (by decide) (by decide)).trans m3107
          have m3181 := (hF1.fld hr_o0 skc_3 (k := 3) (by decide) (by decide)).trans m3108
          have m3182 := (hF1.fld hr_o0 skc_3 (k := 0) (by decide) (by decide)).trans m3109
          have m3183 := (hF1.fld hr_o0 skc_3 (k := 16) (by decide) (by decide)).trans m3110
          have m3184 := (hF1.fld hr_o0 skc_3 (k := 5) (by decide) (by decide)).trans m3111
          have m3185 := (hF1.fld hr_o0 skc_3 (k := 15) (by decide) (by decide)).trans m3112
          have m3186 := (hF1.fld hr_o0 skc_3 (k := 7) (by decide) (by decide)).trans m3113
          have m3187 := (hF1.fld hr_lw skc_7 (k := 2) (by decide) (by decide)).trans m3114
          have m3188 := (hF1.fld hr_lw skc_7 (k := 11) (by decide) (by decide)).trans m3115
          have m3189 := (hF1.fld hr_lw skc_7 (k := 7) (by decide) (by decide)).trans m3116
          have m3190 := (hF1.fld hr_lw skc_7 (k := 8) (by decide) (by decide)).trans m3117
          have m3191 := (hF1.fld hr_lw skc_7 (k := 9) (by decide) (by decide)).trans m3118
          have m3192 := (hF1.fld hr_lw skc_7 (k := 10) (by decide) (by decide)).trans m3119
          have hF := hF.more hF1 (by decide)
          have hF2 := hF2.more hF1 (by decide)
          try dsimp only at hw3173
          have h3205 := hw3173
          refine lv_goto (tgt := 69) hx hb dX0_giveFarms_65 (by decide) ?_
          refine tw_iast (i := (nI i1)) (x := r3172) hx hb hK hT hG hS hr_mk9 shc_57 rfl (vp_in_nI (by omega) (by decide)) (gi_all _) dX0_giveFarms_69 (fun H locs hT oq m3206 oi hS => ?_)
          have hF := hF.ast hr_mk9 skc_57 oq (by decide)
          have hF2 := hF2.ast hr_mk9 skc_57 oq (by decide)
          have m3207 := m3174.put m3206 oi
          have m3208 := m3175.kept (oq _ (gne hr_hd9 hr_mk9 (by decide)))
          have m3209 := m3176.kept (oq _ (gne hr_kn hr_mk9 (by decide)))
          have m3210 := m3177.kept (oq _ (gne hr_sf hr_mk9 (by decide)))
          have m3211 := m3178.kept (oq _ (gne hr_sto hr_mk9 (by decide)))
          have m3212 := m3179.kept (oq _ (gne hr_stp9 hr_mk9 (by decide)))
          have m3213 := (el_kept (oq _ (gne hr_o0 hr_mk9 (by decide)))).trans m3180
          have m3214 := (el_kept (oq _ (gne hr_o0 hr_mk9 (by decide)))).trans m3181
          have m3215 := (el_kept (oq _ (gne hr_o0 hr_mk9 (by decide)))).trans m3182
          have m3216 := (el_kept (oq _ (gne hr_o0 hr_mk9 (by decide)))).trans m3183
          have m3217 := (el_kept (oq _ (gne hr_o0 hr_mk9 (by decide)))).trans m3184
          have m3218 := (el_kept (oq _ (gne hr_o0 hr_mk9 (by decide)))).trans m3185
          have m3219 := (el_kept (oq _ (gne hr_o0 hr_mk9 (by decide)))).trans m3186
          have m3220 := (el_kept (oq _ (gne hr_lw hr_mk9 (by decide)))).trans m3187
          have m3221 := (el_kept (oq _ (gne hr_lw hr_mk9 (by decide)))).trans m3188
          have m3222 := (el_kept (oq _ (gne hr_lw hr_mk9 (by decide)))).trans m3189
          have m3223 := (el_kept (oq _ (gne hr_lw hr_mk9 (by decide)))).trans m3190
          have m3224 := (el_kept (oq _ (gne hr_lw hr_mk9 (by decide)))).trans m3191
          have m3225 := (el_kept (oq _ (gne hr_lw hr_mk9 (by decide)))).trans m3192
          refine lv_iinc (v := nI (i1 + 1)) (lv' := [(3, .int (nI (i1 + 1))), (4, .int 1), (0, .ref o0), (1, .int p0), (2, .ref p1)]) hx hb dX0_giveFarms_70 hl (k := 1) rfl (nI_add i1 1) (by decide) rfl (fun ls hl => ?_)
          refine lv_goto (tgt := 2) hx hb dX0_giveFarms_73 (by decide) ?_
          exact ih1163 (i1 + 1) (by omega) (by omega) (cu V2 (nI i1).toNatClampNeg r3172) ⟨(zPm_s hj22 (tn_nI (by omega)) (by have x9 := (show r3172.toInt = r3172.toInt from rfl); rcases hf3134 with ⟨h8, h7⟩ | ⟨h8, h7⟩; (exact Or.inr ⟨by omega, h7⟩); exact Or.inl ⟨by omega, h7⟩)), (by omega)⟩ _ _ hT hF hF2 hS m3207 m3208 m3209 m3210 m3211 m3212 m3213 m3214 m3215 m3216 m3217 m3218 m3219 m3220 m3221 m3222 m3223 m3224 m3225 ls (lv_sub hl [0, 2, 3, 4] rfl)
  exact key1163 (60 - 0) 0 (by omega) (Nat.le_refl _) vM0 ⟨zPm_0, (by omega)⟩ _ _ hT hF hF2 hS hc_vM0 hc_vh hc_vK hc_vF hc_vT hc_vS hm_mk9 hm_hd9 hm_sA hm_fm hm_fa9 hm_hv0 hm_lw hm_kn hm_ln hm_sf hm_sto hm_stp9 hm_stk ls (lv_sub hl [0, 1, 2, 3] rfl)
