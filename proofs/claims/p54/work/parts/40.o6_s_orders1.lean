def w_s_orders1 : List Cond := .code yX12_orders cX12_orders 10 none :: (HAppend.hAppend (α := List Cond) (β := List Cond) (γ := List Cond) [.fieldLink RX12 553 "SeaLandModel" "jobs" "I", .fieldLink RX12 176 "SeaLandModel" "jCost" "[I", .fieldLink RX12 179 "SeaLandModel" "jYears" "[I", .fieldLink RX12 188 "SeaLandModel" "row" "[I", .fieldLink RX12 182 "SeaLandModel" "jBrings" "[I", .fieldLink RX12 185 "SeaLandModel" "jAcres" "[I", .code yX12_orders cX12_orders 10 none, .fieldLink RX12 556 "SeaLandModel" "lateness" "I", .fieldLink RX12 191 "SeaLandModel" "bestRow" "[I", .methodLink RX12 559 yX12_orders, .instanceMethod yX12_orders, .selects RX12 yX12_orders yX12_orders, .initialized RX12] bs)
set_option maxHeartbeats 4000000 in
set_option maxRecDepth 100000 in
theorem s_orders1 (l : Launch) (dC : Nat → ClassId) (dI : Nat → Nat → Nat) (kA : Nat → ClassId) (adK adV : Nat → Nat) (G : gT) (H0 : Heap) (q : Nat → Nat) (wZ wN : Nat → Int) (wH wB wC : Int) (wL wK : Nat → Prop) (wU wV : Nat → Nat) (PI : Nat → Int → Prop) (im : Int) (PM PT : Nat → Int → Prop) (lS lB lE : Nat → Nat → Int → Prop) (lN : Nat → Int) (o0 : Nat) (us : Int32) (yr : Int32) (ca : Int32) (ic : Int32) (su : Int32) (jb : Int32)  (hT : gH (dC, dI) kA (SHm q (wP wZ wN wH wB wC wL wK wU wV) PI im PM PT lS lB lE lN) G H0) (hr_o0 : G o0 = some 0) (hm_jb : el H0 o0 (dI 15 74) = some (.int jb)) (hq0 : 0 ≤ yr.toInt ∧ yr.toInt ≤ 200) (hq1 : 1 ≤ jb.toInt ∧ jb.toInt ≤ 7) (hgz : ∀ i, 0 ≤ wZ i) (hgn : ∀ i, 6500000 ≤ wN i ∧ wN i ≤ 20200000) (hgh : 0 ≤ wH ∧ wH ≤ 40000) (hgb : 0 ≤ wB ∧ wB ≤ 3850000) (hgc : 0 ≤ wC ∧ wC ≤ 30) (hgi : 0 ≤ im ∧ im ≤ 1) (hgu : ∀ a t, G a = some (t + 1) → a = q t) : Met l yX12_orders w_s_orders1 ({ frames := 6, cells := 0, slots := 0, locals := 174 }) (va_Pc [.ref o0, .int 1, .int us, .int yr, .int ca, .int ic, .int su] (fun U => U.heap = H0 ∧ va_K (dC, dI) vwCl (tyl kA) U ∧ EVS adK adV (gA G H0.size) U U.heap)) (va_Qv (fun (u : Unit) => True) (fun (_ : Unit) (t : State) => gH (dC, dI) kA (SHm q (wP wZ wN wH wB wC wL wK wU wV) PI im PM PT lS lB lE lN) G t.heap ∧ gF (dC, dI) SKm G ([(0, 77), (76, 0), (77, 0)] : List (Nat × Nat)) H0 t.heap) (gA G H0.size)) 0 0 (gA G H0.size) := by
  refine Met.ofW (cc := cX12_orders) (maxL := 10) (ret := none) (by decide) rfl ?_
  intro p e s m args below meth c s₁ B hml hv
  obtain ⟨rfl, hH0, hK, hE⟩ := hv
  have hx := B.exec
  have hb := B.bytes
  have hr := B.returns
  have hts := atoms_spec (ws := w_s_orders1) B.pre
  have hown : s.vm.findClass RX12 = some m.cls := findClass_of_methodNamed B.named
  have hlocks := B.notSynchronized
  subst hH0
  generalize hAe : gA G s.heap.size = A at hE ⊢
  have hA : ∀ q : Nat, s.heap.size ≤ q → A q := fun q h => by rw [← hAe]; exact Or.inr h
  have hG := gA_of hAe
  have hS : va_S A s.heap s.heap [] := va_S.rf
  have hF : gF (dC, dI) SKm G ([(0, 77), (76, 0), (77, 0)] : List (Nat × Nat)) s.heap s.heap := gF.rf
  have hl := lv_entry ([.ref o0, .int 1, .int us, .int yr, .int ca, .int ic, .int su]) (n := 10) (Nat.le_of_ble_eq_true rfl)
  rw [lg_entry_eq]
  generalize (lg_sl ([.ref o0, .int 1, .int us, .int yr, .int ca, .int ic, .int su]) ++ List.replicate (10 - (lg_sl ([.ref o0, .int 1, .int us, .int yr, .int ca, .int ic, .int su])).length) Slot.unset).toArray = ls at hl ⊢
  have hl : lv_has ls 10 [(0, .ref o0), (1, .int 1), (2, .int us), (3, .int yr), (4, .int ca), (5, .int ic), (6, .int su)] := hl
  refine lv_iload_n hx hb dX12_orders_0 rfl (lv_at hl 1 rfl) ?_
  refine lv_aload_n hx hb dX12_orders_1 rfl (lv_at hl 0 rfl) ?_
  refine tw_getM (v := .int jb) hx hb hts bF_X12 hown hK hT hr_o0 shm_0 rfl 74 (by decide) (ht_at hts 0 rfl) (fun _ h9 => h9) hm_jb dX12_orders_2 ?_
  refine lv_icmp_ne (tgt := 61) hx hb dX12_orders_5 (by decide) (fun c1 => ?_) (fun c1 => ?_)
  · have t2 : 1 ≠ jb.toInt := ti_ne c1 (by decide) rfl
    refine lv_iconst (v := 0) hx hb dX12_orders_61 (by decide) ?_
    refine lv_istore (lv' := [(7, .int 0), (0, .ref o0), (1, .int 1), (2, .int us), (3, .int yr), (4, .int ca), (5, .int ic), (6, .int su)]) hx hb dX12_orders_62 hl (by decide) rfl (fun ls hl => ?_)
    have key181 : ∀ (n181 i3 : Nat), i3 + n181 = 7 → 0 ≤ i3 → ∀ (z4 : Int32), ((0 ≤ z4.toInt ∧ z4.toInt ≤ 200)) → ∀ (H : Heap) (locs : List Loc), gH (dC, dI) kA (SHm q (wP wZ wN wH wB wC wL wK wU wV) PI im PM PT lS lB lE lN) G H → gF (dC, dI) SKm G ([(0, 77), (76, 0), (77, 0)] : List (Nat × Nat)) s.heap H → va_S A s.heap H locs → el H o0 (dI 15 74) = some (.int jb) → ∀ ls : Array Slot, lv_has ls 10 [(7, .int (nI i3)), (0, .ref o0), (1, .int 1), (2, .int us), (3, .int z4), (4, .int ca), (5, .int ic), (6, .int su)] → W p l e (headSpec w_s_orders1 ({ frames := 6, cells := 0, slots := 0, locals := 174 })).room s m #[.ref o0, .int 1, .int us, .int yr, .int ca, .int ic, .int su] below meth c H locs 0 0 (MQ below (va_Qv (fun (u : Unit) => True) (fun (_ : Unit) (t : State) => gH (dC, dI) kA (SHm q (wP wZ wN wH wB wC wL wK wU wV) PI im PM PT lS lB lE lN) G t.heap ∧ gF (dC, dI) SKm G ([(0, 77), (76, 0), (77, 0)] : List (Nat × Nat)) s.heap t.heap) A) #[.ref o0, .int 1, .int us, .int yr, .int ca, .int ic, .int su] s 0 0 A) (F0 m 64 ls []) := by
      intro n181
      induction n181 with
      | zero =>
        intro i3 hn181 hlo182 z4 h5 H locs hT hF hS m6 ls hl
        obtain rfl : 7 = i3 := by omega
        refine lv_iload hx hb dX12_orders_64 (lv_at hl 0 rfl) ?_
        refine lv_aload_n hx hb dX12_orders_66 rfl (lv_at hl 1 rfl) ?_
        refine tw_getM (v := .int jb) hx hb hts bF_X12 hown hK hT hr_o0 shm_0 rfl 74 (by decide) (ht_at hts 0 rfl) (fun _ h9 => h9) m6 dX12_orders_67 ?_
        refine lv_icmp_ge (tgt := 231) hx hb dX12_orders_70 (by decide) (fun c183 => ?_) (fun c183 => (by exfalso; have q9 : ((7 : Nat) : Int) < jb.toInt := ti_nle c183 rfl (nI_toInt (by omega)); omega))
        have t184 : jb.toInt ≤ ((7 : Nat) : Int) := ti_le c183 rfl (nI_toInt (by omega))
        exact W.vret hx hb hr (fun t ht hW => ⟨⟨(), rfl, (by exact trivial), by (try dsimp only); rw [ht]; exact ⟨hT, hF⟩⟩, hS.F ht⟩) hS.2.2 dX12_orders_231
      | succ n181 ih181 =>
        intro i3 hn181 hlo182 z4 h5 H locs hT hF hS m6 ls hl
        have hlt184 : i3 < 7 := by omega
        refine lv_iload hx hb dX12_orders_64 (lv_at hl 0 rfl) ?_
        refine lv_aload_n hx hb dX12_orders_66 rfl (lv_at hl 1 rfl) ?_
        refine tw_getM (v := .int jb) hx hb hts bF_X12 hown hK hT hr_o0 shm_0 rfl 74 (by decide) (ht_at hts 0 rfl) (fun _ h9 => h9) m6 dX12_orders_67 ?_
        refine lv_icmp_ge (tgt := 231) hx hb dX12_orders_70 (by decide) (fun c185 => ?_) (fun c185 => ?_)
        · have t186 : jb.toInt ≤ ((i3 : Nat) : Int) := ti_le c185 rfl (nI_toInt (by omega))
          exact W.vret hx hb hr (fun t ht hW => ⟨⟨(), rfl, (by exact trivial), by (try dsimp only); rw [ht]; exact ⟨hT, hF⟩⟩, hS.F ht⟩) hS.2.2 dX12_orders_231
        · have t187 : ((i3 : Nat) : Int) < jb.toInt := ti_nle c185 rfl (nI_toInt (by omega))
          refine lv_iload_n hx hb dX12_orders_73 rfl (lv_at hl 3 rfl) ?_
          refine lv_iload hx hb dX12_orders_74 (lv_at hl 0 rfl) ?_
          refine lv_ishr hx hb dX12_orders_76 ?_
          refine lv_topi (fun x188 ex188 => ?_)
          refine lv_iconst (v := 1) hx hb dX12_orders_77 (by decide) ?_
          refine lv_iand hx hb dX12_orders_78 ?_
          refine lv_topi (fun x189 ex189 => ?_)
          refine lv_iconst (v := 1) hx hb dX12_orders_79 (by decide) ?_
          refine lv_icmp_ne (tgt := 86) hx hb dX12_orders_80 (by decide) (fun c190 => ?_) (fun c190 => ?_)
          · have t191 : x189.toInt ≠ 1 := ti_ne c190 rfl (by decide)
            refine lv_iload_n hx hb dX12_orders_86 rfl (lv_at hl 4 rfl) ?_
            refine lv_istore (lv' := [(8, .int z4), (7, .int (nI i3)), (0, .ref o0), (1, .int 1), (2, .int us), (3, .int z4), (4, .int ca), (5, .int ic), (6, .int su)]) hx hb dX12_orders_87 hl (by decide) rfl (fun ls hl => ?_)
            refine lv_iload hx hb dX12_orders_89 (lv_at hl 6 rfl) ?_
            refine lv_istore (lv' := [(9, .int ca), (8, .int z4), (7, .int (nI i3)), (0, .ref o0), (1, .int 1), (2, .int us), (3, .int z4), (4, .int ca), (5, .int ic), (6, .int su)]) hx hb dX12_orders_91 hl (by decide) rfl (fun ls hl => ?_)
            obtain ⟨k192, hk192, lk192, ek192⟩ := ti_nat z4 (by omega)
            subst ek192
            have jn285 : ∀ (z279 : Int32), ∀ (z280 : Int32), ∀ (z283 : Int32), ((0 ≤ z280.toInt ∧ z280.toInt ≤ 201)) → ∀ (H : Heap) (locs : List Loc), gH (dC, dI) kA (SHm q (wP wZ wN wH wB wC wL wK wU wV) PI im PM PT lS lB lE lN) G H → gF (dC, dI) SKm G ([(0, 77), (76, 0), (77, 0)] : List (Nat × Nat)) s.heap H → va_S A s.heap H locs → el H o0 (dI 15 74) = some (.int jb) → el H (q 70) (nI i3).toNatClampNeg = some (.int z283) → ∀ ls : Array Slot, lv_has ls 10 [(9, .int z279), (8, .int z280), (7, .int (nI i3)), (0, .ref o0), (1, .int 1), (2, .int us), (3, .int (nI k192)), (4, .int ca), (5, .int ic), (6, .int su)] → W p l e (headSpec w_s_orders1 ({ frames := 6, cells := 0, slots := 0, locals := 174 })).room s m #[.ref o0, .int 1, .int us, .int yr, .int ca, .int ic, .int su] below meth c H locs 0 0 (MQ below (va_Qv (fun (u : Unit) => True) (fun (_ : Unit) (t : State) => gH (dC, dI) kA (SHm q (wP wZ wN wH wB wC wL wK wU wV) PI im PM PT lS lB lE lN) G t.heap ∧ gF (dC, dI) SKm G ([(0, 77), (76, 0), (77, 0)] : List (Nat × Nat)) s.heap t.heap) A) #[.ref o0, .int 1, .int us, .int yr, .int ca, .int ic, .int su] s 0 0 A) (F0 m 126 ls []) := by
              intro z279 z280 z283 h281 H locs hT hF hS m282 m284 ls hl
              refine lv_iload hx hb dX12_orders_126 (lv_at hl 0 rfl) ?_
              refine lv_aload_n hx hb dX12_orders_128 rfl (lv_at hl 3 rfl) ?_
              refine tw_get hx hb hts bF_X12 hown hK hT hr_o0 shm_0 rfl 70 (by decide) (ht_at hts 1 rfl) (fun _ h9 => h9) dX12_orders_129 (fun v9 m286 h9 => ?_)
              obtain ⟨rfl, hg287⟩ := h9 _ rfl
              refine lv_iload hx hb dX12_orders_132 (lv_at hl 2 rfl) ?_
              refine tw_iald (i := (nI i3)) hx hb hK hT hg287 shm_71 rfl (vp_in_nI (by omega) (by decide)) dX12_orders_134 (fun v9 m288 h9 => ?_)
              obtain ⟨x289, rfl, gx289, kx289⟩ := h9
              obtain rfl : z283 = x289 := (el_same m288 m284 rfl).symm
              refine lv_isub hx hb dX12_orders_135 ?_
              refine lv_topi (fun x290 ex290 => ?_)
              refine lv_istore (lv' := [(9, .int x290), (8, .int z280), (7, .int (nI i3)), (0, .ref o0), (1, .int 1), (2, .int us), (3, .int (nI k192)), (4, .int ca), (5, .int ic), (6, .int su)]) hx hb dX12_orders_136 hl (by decide) rfl (fun ls hl => ?_)
              refine lv_iload hx hb dX12_orders_138 (lv_at hl 1 rfl) ?_
              refine lv_aload_n hx hb dX12_orders_140 rfl (lv_at hl 3 rfl) ?_
              refine tw_get hx hb hts bF_X12 hown hK hT hr_o0 shm_0 rfl 71 (by decide) (ht_at hts 2 rfl) (fun _ h9 => h9) dX12_orders_141 (fun v9 m291 h9 => ?_)
              obtain ⟨rfl, hg292⟩ := h9 _ rfl
              refine lv_iload hx hb dX12_orders_144 (lv_at hl 2 rfl) ?_
              refine tw_iald (i := (nI i3)) hx hb hK hT hg292 shm_72 rfl (vp_in_nI (by omega) (by decide)) dX12_orders_146 (fun v9 m293 h9 => ?_)
              obtain ⟨x294, rfl, gx294, kx294⟩ := h9
              refine lv_iadd hx hb dX12_orders_147 ?_
              refine lv_topi (fun x295 ex295 => ?_)
              have t296 : x295.toInt = z280.toInt + x294.toInt := ti_add ex295 rfl rfl (by omega) (by omega)
              refine lv_istore (lv' := [(8, .int x295), (9, .int x290), (7, .int (nI i3)), (0, .ref o0), (1, .int 1), (2, .int us), (3, .int (nI k192)), (4, .int ca), (5, .int ic), (6, .int su)]) hx hb dX12_orders_148 hl (by decide) rfl (fun ls hl => ?_)
              refine lv_iload hx hb dX12_orders_150 (lv_at hl 1 rfl) ?_
              refine lv_if_lt (tgt := 225) hx hb dX12_orders_152 (by decide) (fun c297 => ?_) (fun c297 => ?_)
              · have t298 : x290.toInt < 0 := ti_lt c297 rfl (by decide)
                refine lv_iinc (v := nI (i3 + 1)) (lv' := [(7, .int (nI (i3 + 1))), (8, .int x295), (9, .int x290), (0, .ref o0), (1, .int 1), (2, .int us), (3, .int (nI k192)), (4, .int ca), (5, .int ic), (6, .int su)]) hx hb dX12_orders_225 hl (k := 2) rfl (nI_add i3 1) (by decide) rfl (fun ls hl => ?_)
                refine lv_goto (tgt := 64) hx hb dX12_orders_228 (by decide) ?_
                exact ih181 (i3 + 1) (by omega) (by omega) (nI k192) (rg_t (a := ((k192 : Nat) : Int)) (nI_toInt (by omega)) (by omega) (by omega)) _ _ hT hF hS m282 ls (lv_sub hl [0, 3, 4, 5, 6, 7, 8, 9] rfl)
              · have t299 : 0 ≤ x290.toInt := ti_nlt c297 rfl (by decide)
                refine lv_iload hx hb dX12_orders_155 (lv_at hl 0 rfl) ?_
                refine lv_sipush (v := 200) hx hb dX12_orders_157 (by decide) ?_
                refine lv_icmp_le (tgt := 166) hx hb dX12_orders_160 (by decide) (fun c300 => ?_) (fun c300 => ?_)
                · have t301 : x295.toInt ≤ 200 := ti_le c300 rfl (by decide)
                  refine lv_aload_n hx hb dX12_orders_166 rfl (lv_at hl 3 rfl) ?_
                  refine tw_get hx hb hts bF_X12 hown hK hT hr_o0 shm_0 rfl 75 (by decide) (ht_at hts 3 rfl) (fun _ h9 => h9) dX12_orders_167 (fun v9 m302 h9 => ?_)
                  obtain ⟨rfl, hg303⟩ := h9 _ rfl
                  refine lv_iload_n hx hb dX12_orders_170 rfl (lv_at hl 4 rfl) ?_
                  refine lv_iload hx hb dX12_orders_171 (lv_at hl 2 rfl) ?_
                  refine tw_iast (i := 1) (x := (nI i3)) hx hb hK hT hG hS hg303 shm_76 rfl (by unfold vp_in; decide) (gi_all _) dX12_orders_173 (fun H locs hT oq m304 oi hS => ?_)
                  have hF := hF.ast hg303 skm_76 oq (by decide)
                  have m305 := (el_kept (oq _ (gne hr_o0 hg303 (by decide)))).trans m282
                  have m307 := (el_kept (oq _ (gne hg292 hg303 (by decide)))).trans m293
                  refine lv_aload_n hx hb dX12_orders_174 rfl (lv_at hl 3 rfl) ?_
                  refine lv_iload_n hx hb dX12_orders_175 rfl (lv_at hl 4 rfl) ?_
                  refine lv_iconst (v := 1) hx hb dX12_orders_176 (by decide) ?_
                  refine lv_iadd hx hb dX12_orders_177 ?_
                  refine lv_topi (fun x308 ex308 => ?_)
                  obtain rfl : x308 = 2 := ex308.trans (by decide)
                  refine lv_iload_n hx hb dX12_orders_178 rfl (lv_at hl 5 rfl) ?_
                  refine lv_iconst (v := 1) hx hb dX12_orders_179 (by decide) ?_
                  refine lv_iload hx hb dX12_orders_180 (lv_at hl 2 rfl) ?_
                  refine lv_ishl hx hb dX12_orders_182 ?_
                  refine lv_topi (fun x309 ex309 => ?_)
                  refine lv_ior hx hb dX12_orders_183 ?_
                  refine lv_topi (fun x310 ex310 => ?_)
                  refine lv_iload hx hb dX12_orders_184 (lv_at hl 0 rfl) ?_
                  refine lv_iload hx hb dX12_orders_186 (lv_at hl 1 rfl) ?_
                  refine lv_iload hx hb dX12_orders_188 (lv_at hl 8 rfl) ?_
                  refine lv_aload_n hx hb dX12_orders_190 rfl (lv_at hl 3 rfl) ?_
                  refine tw_get hx hb hts bF_X12 hown hK hT hr_o0 shm_0 rfl 71 (by decide) (ht_at hts 2 rfl) (fun _ h9 => h9) dX12_orders_191 (fun v9 m311 h9 => ?_)
                  obtain ⟨rfl, hg312⟩ := h9 _ rfl
                  refine lv_iload hx hb dX12_orders_194 (lv_at hl 2 rfl) ?_
                  refine tw_iald (i := (nI i3)) hx hb hK hT hg292 shm_72 rfl (vp_in_nI (by omega) (by decide)) dX12_orders_196 (fun v9 m313 h9 => ?_)
                  obtain ⟨x314, rfl, gx314, kx314⟩ := h9
                  obtain rfl : x294 = x314 := (el_same m313 m307 rfl).symm
                  refine lv_imul hx hb dX12_orders_197 ?_
                  refine lv_topi (fun x315 ex315 => ?_)
                  refine lv_iadd hx hb dX12_orders_198 ?_
                  refine lv_topi (fun x316 ex316 => ?_)
                  refine lv_iload hx hb dX12_orders_199 (lv_at hl 8 rfl) ?_
                  refine lv_aload_n hx hb dX12_orders_201 rfl (lv_at hl 3 rfl) ?_
                  refine tw_get hx hb hts bF_X12 hown hK hT hr_o0 shm_0 rfl 72 (by decide) (ht_at hts 4 rfl) (fun _ h9 => h9) dX12_orders_202 (fun v9 m317 h9 => ?_)
                  obtain ⟨rfl, hg318⟩ := h9 _ rfl
                  refine lv_iload hx hb dX12_orders_205 (lv_at hl 2 rfl) ?_
                  refine tw_iald (i := (nI i3)) hx hb hK hT hg318 shm_73 rfl (vp_in_nI (by omega) (by decide)) dX12_orders_207 (fun v9 m319 h9 => ?_)
                  obtain ⟨x320, rfl, gx320, kx320⟩ := h9
                  refine lv_iadd hx hb dX12_orders_208 ?_
                  refine lv_topi (fun x321 ex321 => ?_)
                  refine lv_iload hx hb dX12_orders_209 (lv_at hl 9 rfl) ?_
                  refine lv_aload_n hx hb dX12_orders_211 rfl (lv_at hl 3 rfl) ?_
                  refine tw_get hx hb hts bF_X12 hown hK hT hr_o0 shm_0 rfl 73 (by decide) (ht_at hts 5 rfl) (fun _ h9 => h9) dX12_orders_212 (fun v9 m322 h9 => ?_)
                  obtain ⟨rfl, hg323⟩ := h9 _ rfl
                  refine lv_iload hx hb dX12_orders_215 (lv_at hl 2 rfl) ?_
                  refine tw_iald (i := (nI i3)) hx hb hK hT hg323 shm_74 rfl (vp_in_nI (by omega) (by decide)) dX12_orders_217 (fun v9 m324 h9 => ?_)
                  obtain ⟨x325, rfl, gx325, kx325⟩ := h9
                  refine lv_iload hx hb dX12_orders_218 (lv_at hl 0 rfl) ?_
                  refine lv_imul hx hb dX12_orders_220 ?_
                  refine lv_topi (fun x326 ex326 => ?_)
                  refine lv_iadd hx hb dX12_orders_221 ?_
                  refine lv_topi (fun x327 ex327 => ?_)
                  have hFc := gA_free hG hA hS
                  refine va_callv (va_runV (As := [.int 2, .int x310, .int x295, .int x316, .int x321, .int x327]) (rest := []) ⟨hx, hb, hml, hown, hts⟩ (s_orders2 l dC dI kA adK adV G H q wZ wN wH wB wC wL wK wU wV PI im PM PT lS lB lE lN o0 x310 x295 x316 x321 x327 jb hT hr_o0 m305 (by have q8 := ti_all x295; omega) (by have q8 := ti_all jb; omega) hgz hgn hgh hgb hgc hgi hgu) (cwV 6 hts (goodIn_app (goodIn_r _ [10, 11, 12, 13] rfl (by decide +kernel)) (goodIn_ca (goodIn_r _ [7, 1, 2, 3, 4, 5, 6, 7, 8, 9, 10, 11, 12, 13] rfl (by decide +kernel)) (bs_in _ _))) rfl rfl rfl (by decide +kernel) ⟨(Nat.le_of_ble_eq_true rfl), (Nat.le_of_ble_eq_true rfl)⟩) ⟨fun a U g mk q => by obtain ⟨q0, q1, qK, qE⟩ := q; exact ⟨q0, q1, va_K.moved (u := U) (U := U.calling g mk a) (Vm.Alike.refl U.vm) qK, EVS.blind g mk a qE⟩, gH_rc hK hT hr_o0 shm_0 rfl, fun U hU hW => ⟨rfl, hU, va_K.moved hW.alike hK, hE.call hS hFc hU hW⟩⟩ rfl rfl hl.1 rfl (lv_room (Nat.le_of_ble_eq_true rfl)) dX12_orders_222 ⟨(Nat.le_of_ble_eq_true rfl), (Nat.le_of_ble_eq_true rfl)⟩) hS (fun q _ h => hFc q h) hFc (fun u t H locs ht hvm hw329 hB _ _ hS => ?_)
                  obtain ⟨hT, hF1⟩ := hB
                  rw [ht] at hT hF1
                  have m330 := (hF1.fld hr_o0 skm_0 (k := 74) (by decide) (by decide)).trans m305
                  have hF := hF.more hF1 (by decide)
                  try dsimp only at hw329
                  refine lv_iinc (v := nI (i3 + 1)) (lv' := [(7, .int (nI (i3 + 1))), (8, .int x295), (9, .int x290), (0, .ref o0), (1, .int 1), (2, .int us), (3, .int (nI k192)), (4, .int ca), (5, .int ic), (6, .int su)]) hx hb dX12_orders_225 hl (k := 2) rfl (nI_add i3 1) (by decide) rfl (fun ls hl => ?_)
                  refine lv_goto (tgt := 64) hx hb dX12_orders_228 (by decide) ?_
                  exact ih181 (i3 + 1) (by omega) (by omega) (nI k192) (rg_t (a := ((k192 : Nat) : Int)) (nI_toInt (by omega)) (by omega) (by omega)) _ _ hT hF hS m330 ls (lv_sub hl [0, 3, 4, 5, 6, 7, 8, 9] rfl)
                · have t336 : 200 < x295.toInt := ti_nle c300 rfl (by decide)
                  refine lv_goto (tgt := 225) hx hb dX12_orders_163 (by decide) ?_
                  refine lv_iinc (v := nI (i3 + 1)) (lv' := [(7, .int (nI (i3 + 1))), (8, .int x295), (9, .int x290), (0, .ref o0), (1, .int 1), (2, .int us), (3, .int (nI k192)), (4, .int ca), (5, .int ic), (6, .int su)]) hx hb dX12_orders_225 hl (k := 2) rfl (nI_add i3 1) (by decide) rfl (fun ls hl => ?_)
                  refine lv_goto (tgt := 64) hx hb dX12_orders_228 (by decide) ?_
                  exact ih181 (i3 + 1) (by omega) (by omega) (nI k192) (rg_t (a := ((k192 : Nat) : Int)) (nI_toInt (by omega)) (by omega) (by omega)) _ _ hT hF hS m282 ls (lv_sub hl [0, 3, 4, 5, 6, 7, 8, 9] rfl)
            have key337 : ∀ (n337 i193 : Nat), i193 + n337 = 201 → k192 ≤ i193 → ∀ (z194 : Int32), ∀ (H : Heap) (locs : List Loc), gH (dC, dI) kA (SHm q (wP wZ wN wH wB wC wL wK wU wV) PI im PM PT lS lB lE lN) G H → gF (dC, dI) SKm G ([(0, 77), (76, 0), (77, 0)] : List (Nat × Nat)) s.heap H → va_S A s.heap H locs → el H o0 (dI 15 74) = some (.int jb) → ∀ ls : Array Slot, lv_has ls 10 [(9, .int z194), (8, .int (nI i193)), (7, .int (nI i3)), (0, .ref o0), (1, .int 1), (2, .int us), (3, .int (nI k192)), (4, .int ca), (5, .int ic), (6, .int su)] → W p l e (headSpec w_s_orders1 ({ frames := 6, cells := 0, slots := 0, locals := 174 })).room s m #[.ref o0, .int 1, .int us, .int yr, .int ca, .int ic, .int su] below meth c H locs 0 0 (MQ below (va_Qv (fun (u : Unit) => True) (fun (_ : Unit) (t : State) => gH (dC, dI) kA (SHm q (wP wZ wN wH wB wC wL wK wU wV) PI im PM PT lS lB lE lN) G t.heap ∧ gF (dC, dI) SKm G ([(0, 77), (76, 0), (77, 0)] : List (Nat × Nat)) s.heap t.heap) A) #[.ref o0, .int 1, .int us, .int yr, .int ca, .int ic, .int su] s 0 0 A) (F0 m 93 ls []) := by
              intro n337
              induction n337 with
              | zero =>
                intro i193 hn337 hlo338 z194 H locs hT hF hS m195 ls hl
                obtain rfl : 201 = i193 := by omega
                refine lv_iload hx hb dX12_orders_93 (lv_at hl 0 rfl) ?_
                refine lv_aload_n hx hb dX12_orders_95 rfl (lv_at hl 3 rfl) ?_
                refine tw_get hx hb hts bF_X12 hown hK hT hr_o0 shm_0 rfl 70 (by decide) (ht_at hts 1 rfl) (fun _ h9 => h9) dX12_orders_96 (fun v9 m339 h9 => ?_)
                obtain ⟨rfl, hg340⟩ := h9 _ rfl
                refine lv_iload hx hb dX12_orders_99 (lv_at hl 2 rfl) ?_
                refine tw_iald (i := (nI i3)) hx hb hK hT hg340 shm_71 rfl (vp_in_nI (by omega) (by decide)) dX12_orders_101 (fun v9 m341 h9 => ?_)
                obtain ⟨x342, rfl, gx342, kx342⟩ := h9
                refine lv_icmp_ge (tgt := 126) hx hb dX12_orders_102 (by decide) (fun c343 => ?_) (fun c343 => ?_)
                · have t344 : x342.toInt ≤ z194.toInt := ti_le c343 rfl rfl
                  exact jn285 z194 (nI 201) x342 (rg_t (a := ((201 : Nat) : Int)) (nI_toInt (by omega)) (by omega) (by omega)) _ _ hT hF hS m195 m341 ls (lv_sub hl [0, 1, 2, 3, 4, 5, 6, 7, 8, 9] rfl)
                · have t345 : z194.toInt < x342.toInt := ti_nle c343 rfl rfl
                  refine lv_iload hx hb dX12_orders_105 (lv_at hl 1 rfl) ?_
                  refine lv_sipush (v := 200) hx hb dX12_orders_107 (by decide) ?_
                  refine lv_icmp_gt (tgt := 126) hx hb dX12_orders_110 (by decide) (fun c346 => ?_) (fun c346 => (by exfalso; have q9 : ((201 : Nat) : Int) ≤ 200 := ti_nlt c346 (by decide) (nI_toInt (by omega)); omega))
                  have t347 : 200 < ((201 : Nat) : Int) := ti_lt c346 (by decide) (nI_toInt (by omega))
                  exact jn285 z194 (nI 201) x342 (rg_t (a := ((201 : Nat) : Int)) (nI_toInt (by omega)) (by omega) (by omega)) _ _ hT hF hS m195 m341 ls (lv_sub hl [0, 1, 2, 3, 4, 5, 6, 7, 8, 9] rfl)
              | succ n337 ih337 =>
                intro i193 hn337 hlo338 z194 H locs hT hF hS m195 ls hl
                have hlt347 : i193 < 201 := by omega
                refine lv_iload hx hb dX12_orders_93 (lv_at hl 0 rfl) ?_
                refine lv_aload_n hx hb dX12_orders_95 rfl (lv_at hl 3 rfl) ?_
                refine tw_get hx hb hts bF_X12 hown hK hT hr_o0 shm_0 rfl 70 (by decide) (ht_at hts 1 rfl) (fun _ h9 => h9) dX12_orders_96 (fun v9 m348 h9 => ?_)
                obtain ⟨rfl, hg349⟩ := h9 _ rfl
                refine lv_iload hx hb dX12_orders_99 (lv_at hl 2 rfl) ?_
                refine tw_iald (i := (nI i3)) hx hb hK hT hg349 shm_71 rfl (vp_in_nI (by omega) (by decide)) dX12_orders_101 (fun v9 m350 h9 => ?_)
                obtain ⟨x351, rfl, gx351, kx351⟩ := h9
                refine lv_icmp_ge (tgt := 126) hx hb dX12_orders_102 (by decide) (fun c352 => ?_) (fun c352 => ?_)
                · have t353 : x351.toInt ≤ z194.toInt := ti_le c352 rfl rfl
                  exact jn285 z194 (nI i193) x351 (rg_t (a := ((i193 : Nat) : Int)) (nI_toInt (by omega)) (by omega) (by omega)) _ _ hT hF hS m195 m350 ls (lv_sub hl [0, 1, 2, 3, 4, 5, 6, 7, 8, 9] rfl)
                · have t354 : z194.toInt < x351.toInt := ti_nle c352 rfl rfl
                  refine lv_iload hx hb dX12_orders_105 (lv_at hl 1 rfl) ?_
                  refine lv_sipush (v := 200) hx hb dX12_orders_107 (by decide) ?_
                  refine lv_icmp_gt (tgt := 126) hx hb dX12_orders_110 (by decide) (fun c355 => (by exfalso; have q9 : 200 < ((i193 : Nat) : Int) := ti_lt c355 (by decide) (nI_toInt (by omega)); omega)) (fun c355 => ?_)
                  have t356 : ((i193 : Nat) : Int) ≤ 200 := ti_nlt c355 (by decide) (nI_toInt (by omega))
                  refine lv_iinc (v := nI (i193 + 1)) (lv' := [(8, .int (nI (i193 + 1))), (9, .int z194), (7, .int (nI i3)), (0, .ref o0), (1, .int 1), (2, .int us), (3, .int (nI k192)), (4, .int ca), (5, .int ic), (6, .int su)]) hx hb dX12_orders_113 hl (k := 1) rfl (nI_add i193 1) (by decide) rfl (fun ls hl => ?_)
                  refine lv_iload hx hb dX12_orders_116 (lv_at hl 1 rfl) ?_
                  refine lv_iload hx hb dX12_orders_118 (lv_at hl 8 rfl) ?_
                  refine lv_iadd hx hb dX12_orders_120 ?_
                  refine lv_topi (fun x357 ex357 => ?_)
                  refine lv_istore (lv' := [(9, .int x357), (8, .int (nI (i193 + 1))), (7, .int (nI i3)), (0, .ref o0), (1, .int 1), (2, .int us), (3, .int (nI k192)), (4, .int ca), (5, .int ic), (6, .int su)]) hx hb dX12_orders_121 hl (by decide) rfl (fun ls hl => ?_)
                  refine lv_goto (tgt := 93) hx hb dX12_orders_123 (by decide) ?_
                  exact ih337 (i193 + 1) (by omega) (by omega) x357 _ _ hT hF hS m195 ls (lv_sub hl [0, 1, 2, 3, 4, 5, 6, 7, 8, 9] rfl)
            exact key337 (201 - k192) k192 (by omega) (Nat.le_refl _) ca _ _ hT hF hS m6 ls (lv_sub hl [0, 1, 2, 3, 4, 5, 6, 7, 8, 9] rfl)
          · have t358 : x189.toInt = 1 := ti_eq c190 rfl (by decide)
            refine lv_goto (tgt := 225) hx hb dX12_orders_83 (by decide) ?_
            refine lv_iinc (v := nI (i3 + 1)) (lv' := [(7, .int (nI (i3 + 1))), (0, .ref o0), (1, .int 1), (2, .int us), (3, .int z4), (4, .int ca), (5, .int ic), (6, .int su)]) hx hb dX12_orders_225 hl (k := 0) rfl (nI_add i3 1) (by decide) rfl (fun ls hl => ?_)
            refine lv_goto (tgt := 64) hx hb dX12_orders_228 (by decide) ?_
            exact ih181 (i3 + 1) (by omega) (by omega) z4 (by have q8 := ti_all z4; omega) _ _ hT hF hS m6 ls (lv_sub hl [0, 1, 2, 3, 4, 5, 6, 7] rfl)
    exact key181 (7 - 0) 0 (by omega) (Nat.le_refl _) yr (by have q8 := ti_all yr; omega) _ _ hT hF hS hm_jb ls (lv_sub hl [0, 1, 2, 3, 4, 5, 6, 7] rfl)
  · have t359 : 1 = jb.toInt := ti_eq c1 (by decide) rfl
    refine lv_aload_n hx hb dX12_orders_8 rfl (lv_at hl 0 rfl) ?_
    refine tw_get hx hb hts bF_X12 hown hK hT hr_o0 shm_0 rfl 77 (by decide) (ht_at hts 7 rfl) (fun _ h9 => h9) dX12_orders_9 (fun v9 m360 h9 => ?_)
    obtain ⟨x361, rfl, gx361, kx361⟩ := h9 _ rfl
    refine lv_if_lt (tgt := 25) hx hb dX12_orders_12 (by decide) (fun c362 => ?_) (fun c362 => ?_)
    · have t363 : x361.toInt < 0 := ti_lt c362 rfl (by decide)
      refine lv_aload_n hx hb dX12_orders_25 rfl (lv_at hl 0 rfl) ?_
      refine lv_iload hx hb dX12_orders_26 (lv_at hl 6 rfl) ?_
      refine tw_put (v := .int su) (ty := .int) hx hb hts bF_X12 tyX12 tyX12_ok nmX12 hown hK hT hG hS hr_o0 shm_0 rfl 77 (by decide) (ht_at hts 7 rfl) (fun _ h9 => h9) rfl (by decide +kernel) rfl rfl (gl_at rfl (gi_all _)) dX12_orders_28 (fun H locs hT oq m364 oj hS => ?_)
      have hF := hF.put hr_o0 skm_0 oq oj (by decide)
      have m365 := (oj 74 (by decide) (by decide)).trans hm_jb
      refine lv_iconst (v := 0) hx hb dX12_orders_31 (by decide) ?_
      refine lv_istore (lv' := [(7, .int 0), (0, .ref o0), (1, .int 1), (2, .int us), (3, .int yr), (4, .int ca), (5, .int ic), (6, .int su)]) hx hb dX12_orders_32 hl (by decide) rfl (fun ls hl => ?_)
      have key381 : ∀ (n381 i366 : Nat), i366 + n381 = 1 → 0 ≤ i366 → ∀ (H : Heap) (locs : List Loc), gH (dC, dI) kA (SHm q (wP wZ wN wH wB wC wL wK wU wV) PI im PM PT lS lB lE lN) G H → gF (dC, dI) SKm G ([(0, 77), (76, 0), (77, 0)] : List (Nat × Nat)) s.heap H → va_S A s.heap H locs → el H o0 (dI 15 74) = some (.int jb) → el H o0 (dI 15 77) = some (.int su) → ∀ ls : Array Slot, lv_has ls 10 [(7, .int (nI i366)), (0, .ref o0), (1, .int 1), (2, .int us), (3, .int yr), (4, .int ca), (5, .int ic), (6, .int su)] → W p l e (headSpec w_s_orders1 ({ frames := 6, cells := 0, slots := 0, locals := 174 })).room s m #[.ref o0, .int 1, .int us, .int yr, .int ca, .int ic, .int su] below meth c H locs 0 0 (MQ below (va_Qv (fun (u : Unit) => True) (fun (_ : Unit) (t : State) => gH (dC, dI) kA (SHm q (wP wZ wN wH wB wC wL wK wU wV) PI im PM PT lS lB lE lN) G t.heap ∧ gF (dC, dI) SKm G ([(0, 77), (76, 0), (77, 0)] : List (Nat × Nat)) s.heap t.heap) A) #[.ref o0, .int 1, .int us, .int yr, .int ca, .int ic, .int su] s 0 0 A) (F0 m 34 ls []) := by
        intro n381
        induction n381 with
        | zero =>
          intro i366 hn381 hlo382  H locs hT hF hS m367 m368 ls hl
          obtain rfl : 1 = i366 := by omega
          refine lv_iload hx hb dX12_orders_34 (lv_at hl 0 rfl) ?_
          refine lv_iload_n hx hb dX12_orders_36 rfl (lv_at hl 2 rfl) ?_
          refine lv_icmp_ge (tgt := 60) hx hb dX12_orders_37 (by decide) (fun c383 => ?_) (fun c383 => (by exfalso; have q9 : ((1 : Nat) : Int) < 1 := ti_nle c383 (by decide) (nI_toInt (by omega)); omega))
          have t384 : 1 ≤ ((1 : Nat) : Int) := ti_le c383 (by decide) (nI_toInt (by omega))
          exact W.vret hx hb hr (fun t ht hW => ⟨⟨(), rfl, (by exact trivial), by (try dsimp only); rw [ht]; exact ⟨hT, hF⟩⟩, hS.F ht⟩) hS.2.2 dX12_orders_60
        | succ n381 ih381 =>
          intro i366 hn381 hlo382  H locs hT hF hS m367 m368 ls hl
          have hlt384 : i366 < 1 := by omega
          refine lv_iload hx hb dX12_orders_34 (lv_at hl 0 rfl) ?_
          refine lv_iload_n hx hb dX12_orders_36 rfl (lv_at hl 2 rfl) ?_
          refine lv_icmp_ge (tgt := 60) hx hb dX12_orders_37 (by decide) (fun c385 => (by exfalso; have q9 : 1 ≤ ((i366 : Nat) : Int) := ti_le c385 (by decide) (nI_toInt (by omega)); omega)) (fun c385 => ?_)
          have t386 : ((i366 : Nat) : Int) < 1 := ti_nle c385 (by decide) (nI_toInt (by omega))
          refine lv_aload_n hx hb dX12_orders_40 rfl (lv_at hl 1 rfl) ?_
          refine tw_get hx hb hts bF_X12 hown hK hT hr_o0 shm_0 rfl 76 (by decide) (ht_at hts 8 rfl) (fun _ h9 => h9) dX12_orders_41 (fun v9 m387 h9 => ?_)
          obtain ⟨rfl, hg388⟩ := h9 _ rfl
          refine lv_iload hx hb dX12_orders_44 (lv_at hl 0 rfl) ?_
          refine lv_aload_n hx hb dX12_orders_46 rfl (lv_at hl 1 rfl) ?_
          refine tw_get hx hb hts bF_X12 hown hK hT hr_o0 shm_0 rfl 75 (by decide) (ht_at hts 3 rfl) (fun _ h9 => h9) dX12_orders_47 (fun v9 m389 h9 => ?_)
          obtain ⟨rfl, hg390⟩ := h9 _ rfl
          refine lv_iload hx hb dX12_orders_50 (lv_at hl 0 rfl) ?_
          refine tw_iald (i := (nI i366)) hx hb hK hT hg390 shm_76 rfl (vp_in_nI (by omega) (by decide)) dX12_orders_52 (fun v9 m391 h9 => ?_)
          obtain ⟨x392, rfl, gx392, kx392⟩ := h9
          refine tw_iast (i := (nI i366)) (x := x392) hx hb hK hT hG hS hg388 shm_77 rfl (vp_in_nI (by omega) (by decide)) (gi_all _) dX12_orders_53 (fun H locs hT oq m393 oi hS => ?_)
          have hF := hF.ast hg388 skm_77 oq (by decide)
          have m394 := (el_kept (oq _ (gne hr_o0 hg388 (by decide)))).trans m367
          have m395 := (el_kept (oq _ (gne hr_o0 hg388 (by decide)))).trans m368
          refine lv_iinc (v := nI (i366 + 1)) (lv' := [(7, .int (nI (i366 + 1))), (0, .ref o0), (1, .int 1), (2, .int us), (3, .int yr), (4, .int ca), (5, .int ic), (6, .int su)]) hx hb dX12_orders_54 hl (k := 0) rfl (nI_add i366 1) (by decide) rfl (fun ls hl => ?_)
          refine lv_goto (tgt := 34) hx hb dX12_orders_57 (by decide) ?_
          exact ih381 (i366 + 1) (by omega) (by omega) _ _ hT hF hS m394 m395 ls (lv_sub hl [0, 1, 2, 3, 4, 5, 6, 7] rfl)
      exact key381 (1 - 0) 0 (by omega) (Nat.le_refl _) _ _ hT hF hS m365 m364 ls (lv_sub hl [0, 1, 2, 3, 4, 5, 6, 7] rfl)
    · have t397 : 0 ≤ x361.toInt := ti_nlt c362 rfl (by decide)
      refine lv_iload hx hb dX12_orders_15 (lv_at hl 6 rfl) ?_
      refine lv_aload_n hx hb dX12_orders_17 rfl (lv_at hl 0 rfl) ?_
      refine tw_getM (v := .int x361) hx hb hts bF_X12 hown hK hT hr_o0 shm_0 rfl 77 (by decide) (ht_at hts 7 rfl) (fun _ h9 => h9) m360 dX12_orders_18 ?_
      refine lv_icmp_lt (tgt := 25) hx hb dX12_orders_21 (by decide) (fun c398 => ?_) (fun c398 => ?_)
      · have t399 : su.toInt < x361.toInt := ti_lt c398 rfl rfl
        refine lv_aload_n hx hb dX12_orders_25 rfl (lv_at hl 0 rfl) ?_
        refine lv_iload hx hb dX12_orders_26 (lv_at hl 6 rfl) ?_
        refine tw_put (v := .int su) (ty := .int) hx hb hts bF_X12 tyX12 tyX12_ok nmX12 hown hK hT hG hS hr_o0 shm_0 rfl 77 (by decide) (ht_at hts 7 rfl) (fun _ h9 => h9) rfl (by decide +kernel) rfl rfl (gl_at rfl (gi_all _)) dX12_orders_28 (fun H locs hT oq m400 oj hS => ?_)
        have hF := hF.put hr_o0 skm_0 oq oj (by decide)
        have m401 := (oj 74 (by decide) (by decide)).trans hm_jb
        refine lv_iconst (v := 0) hx hb dX12_orders_31 (by decide) ?_
        refine lv_istore (lv' := [(7, .int 0), (0, .ref o0), (1, .int 1), (2, .int us), (3, .int yr), (4, .int ca), (5, .int ic), (6, .int su)]) hx hb dX12_orders_32 hl (by decide) rfl (fun ls hl => ?_)
        have key417 : ∀ (n417 i402 : Nat), i402 + n417 = 1 → 0 ≤ i402 → ∀ (H : Heap) (locs : List Loc), gH (dC, dI) kA (SHm q (wP wZ wN wH wB wC wL wK wU wV) PI im PM PT lS lB lE lN) G H → gF (dC, dI) SKm G ([(0, 77), (76, 0), (77, 0)] : List (Nat × Nat)) s.heap H → va_S A s.heap H locs → el H o0 (dI 15 74) = some (.int jb) → el H o0 (dI 15 77) = some (.int su) → ∀ ls : Array Slot, lv_has ls 10 [(7, .int (nI i402)), (0, .ref o0), (1, .int 1), (2, .int us), (3, .int yr), (4, .int ca), (5, .int ic), (6, .int su)] → W p l e (headSpec w_s_orders1 ({ frames := 6, cells := 0, slots := 0, locals := 174 })).room s m #[.ref o0, .int 1, .int us, .int yr, .int ca, .int ic, .int su] below meth c H locs 0 0 (MQ below (va_Qv (fun (u : Unit) => True) (fun (_ : Unit) (t : State) => gH (dC, dI) kA (SHm q (wP wZ wN wH wB wC wL wK wU wV) PI im PM PT lS lB lE lN) G t.heap ∧ gF (dC, dI) SKm G ([(0, 77), (76, 0), (77, 0)] : List (Nat × Nat)) s.heap t.heap) A) #[.ref o0, .int 1, .int us, .int yr, .int ca, .int ic, .int su] s 0 0 A) (F0 m 34 ls []) := by
          intro n417
          induction n417 with
          | zero =>
            intro i402 hn417 hlo418  H locs hT hF hS m403 m404 ls hl
            obtain rfl : 1 = i402 := by omega
            refine lv_iload hx hb dX12_orders_34 (lv_at hl 0 rfl) ?_
            refine lv_iload_n hx hb dX12_orders_36 rfl (lv_at hl 2 rfl) ?_
            refine lv_icmp_ge (tgt := 60) hx hb dX12_orders_37 (by decide) (fun c419 => ?_) (fun c419 => (by exfalso; have q9 : ((1 : Nat) : Int) < 1 := ti_nle c419 (by decide) (nI_toInt (by omega)); omega))
            have t420 : 1 ≤ ((1 : Nat) : Int) := ti_le c419 (by decide) (nI_toInt (by omega))
            exact W.vret hx hb hr (fun t ht hW => ⟨⟨(), rfl, (by exact trivial), by (try dsimp only); rw [ht]; exact ⟨hT, hF⟩⟩, hS.F ht⟩) hS.2.2 dX12_orders_60
          | succ n417 ih417 =>
            intro i402 hn417 hlo418  H locs hT hF hS m403 m404 ls hl
            have hlt420 : i402 < 1 := by omega
            refine lv_iload hx hb dX12_orders_34 (lv_at hl 0 rfl) ?_
            refine lv_iload_n hx hb dX12_orders_36 rfl (lv_at hl 2 rfl) ?_
            refine lv_icmp_ge (tgt := 60) hx hb dX12_orders_37 (by decide) (fun c421 => (by exfalso; have q9 : 1 ≤ ((i402 : Nat) : Int) := ti_le c421 (by decide) (nI_toInt (by omega)); omega)) (fun c421 => ?_)
            have t422 : ((i402 : Nat) : Int) < 1 := ti_nle c421 (by decide) (nI_toInt (by omega))
            refine lv_aload_n hx hb dX12_orders_40 rfl (lv_at hl 1 rfl) ?_
            refine tw_get hx hb hts bF_X12 hown hK hT hr_o0 shm_0 rfl 76 (by decide) (ht_at hts 8 rfl) (fun _ h9 => h9) dX12_orders_41 (fun v9 m423 h9 => ?_)
            obtain ⟨rfl, hg424⟩ := h9 _ rfl
            refine lv_iload hx hb dX12_orders_44 (lv_at hl 0 rfl) ?_
            refine lv_aload_n hx hb dX12_orders_46 rfl (lv_at hl 1 rfl) ?_
            refine tw_get hx hb hts bF_X12 hown hK hT hr_o0 shm_0 rfl 75 (by decide) (ht_at hts 3 rfl) (fun _ h9 => h9) dX12_orders_47 (fun v9 m425 h9 => ?_)
            obtain ⟨rfl, hg426⟩ := h9 _ rfl
            refine lv_iload hx hb dX12_orders_50 (lv_at hl 0 rfl) ?_
            refine tw_iald (i := (nI i402)) hx hb hK hT hg426 shm_76 rfl (vp_in_nI (by omega) (by decide)) dX12_orders_52 (fun v9 m427 h9 => ?_)
            obtain ⟨x428, rfl, gx428, kx428⟩ := h9
            refine tw_iast (i := (nI i402)) (x := x428) hx hb hK hT hG hS hg424 shm_77 rfl (vp_in_nI (by omega) (by decide)) (gi_all _) dX12_orders_53 (fun H locs hT oq m429 oi hS => ?_)
            have hF := hF.ast hg424 skm_77 oq (by decide)
            have m430 := (el_kept (oq _ (gne hr_o0 hg424 (by decide)))).trans m403
            have m431 := (el_kept (oq _ (gne hr_o0 hg424 (by decide)))).trans m404
            refine lv_iinc (v := nI (i402 + 1)) (lv' := [(7, .int (nI (i402 + 1))), (0, .ref o0), (1, .int 1), (2, .int us), (3, .int yr), (4, .int ca), (5, .int ic), (6, .int su)]) hx hb dX12_orders_54 hl (k := 0) rfl (nI_add i402 1) (by decide) rfl (fun ls hl => ?_)
            refine lv_goto (tgt := 34) hx hb dX12_orders_57 (by decide) ?_
            exact ih417 (i402 + 1) (by omega) (by omega) _ _ hT hF hS m430 m431 ls (lv_sub hl [0, 1, 2, 3, 4, 5, 6, 7] rfl)
        exact key417 (1 - 0) 0 (by omega) (Nat.le_refl _) _ _ hT hF hS m401 m400 ls (lv_sub hl [0, 1, 2, 3, 4, 5, 6, 7] rfl)
      · have t433 : x361.toInt ≤ su.toInt := ti_nlt c398 rfl rfl
        exact W.vret hx hb hr (fun t ht hW => ⟨⟨(), rfl, (by exact trivial), by (try dsimp only); rw [ht]; exact ⟨hT, hF⟩⟩, hS.F ht⟩) hS.2.2 dX12_orders_24
