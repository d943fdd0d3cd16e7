def w_s_orders6 : List Cond := .code yX12_orders cX12_orders 10 none :: (HAppend.hAppend (α := List Cond) (β := List Cond) (γ := List Cond) [.fieldLink RX12 553 "SeaLandModel" "jobs" "I", .fieldLink RX12 176 "SeaLandModel" "jCost" "[I", .fieldLink RX12 179 "SeaLandModel" "jYears" "[I", .fieldLink RX12 188 "SeaLandModel" "row" "[I", .fieldLink RX12 182 "SeaLandModel" "jBrings" "[I", .fieldLink RX12 185 "SeaLandModel" "jAcres" "[I", .code yX12_orders cX12_orders 10 none, .fieldLink RX12 556 "SeaLandModel" "lateness" "I", .fieldLink RX12 191 "SeaLandModel" "bestRow" "[I", .methodLink RX12 559 yX12_orders, .instanceMethod yX12_orders, .selects RX12 yX12_orders yX12_orders, .initialized RX12] bs)
set_option maxHeartbeats 4000000 in
set_option maxRecDepth 100000 in
theorem s_orders6 (l : Launch) (dC : Nat → ClassId) (dI : Nat → Nat → Nat) (kA : Nat → ClassId) (adK adV : Nat → Nat) (G : gT) (H0 : Heap) (q : Nat → Nat) (wZ wN : Nat → Int) (wH wB wC : Int) (wL wK : Nat → Prop) (wU wV : Nat → Nat) (PI : Nat → Int → Prop) (im : Int) (PM PT : Nat → Int → Prop) (lS lB lE : Nat → Nat → Int → Prop) (lN : Nat → Int) (o0 : Nat) (us : Int32) (yr : Int32) (ca : Int32) (ic : Int32) (su : Int32) (jb : Int32)  (hT : gH (dC, dI) kA (SHm q (wP wZ wN wH wB wC wL wK wU wV) PI im PM PT lS lB lE lN) G H0) (hr_o0 : G o0 = some 0) (hm_jb : el H0 o0 (dI 15 74) = some (.int jb)) (hq0 : 0 ≤ yr.toInt ∧ yr.toInt ≤ 200) (hq1 : 6 ≤ jb.toInt ∧ jb.toInt ≤ 7) (hgz : ∀ i, 0 ≤ wZ i) (hgn : ∀ i, 6500000 ≤ wN i ∧ wN i ≤ 20200000) (hgh : 0 ≤ wH ∧ wH ≤ 40000) (hgb : 0 ≤ wB ∧ wB ≤ 3850000) (hgc : 0 ≤ wC ∧ wC ≤ 30) (hgi : 0 ≤ im ∧ im ≤ 1) (hgu : ∀ a t, G a = some (t + 1) → a = q t) : Met l yX12_orders w_s_orders6 ({ frames := 1, cells := 0, slots := 0, locals := 29 }) (va_Pc [.ref o0, .int 6, .int us, .int yr, .int ca, .int ic, .int su] (fun U => U.heap = H0 ∧ va_K (dC, dI) vwCl (tyl kA) U ∧ EVS adK adV (gA G H0.size) U U.heap)) (va_Qv (fun (u : Unit) => True) (fun (_ : Unit) (t : State) => gH (dC, dI) kA (SHm q (wP wZ wN wH wB wC wL wK wU wV) PI im PM PT lS lB lE lN) G t.heap ∧ gF (dC, dI) SKm G ([(0, 77), (76, 0), (77, 0)] : List (Nat × Nat)) H0 t.heap) (gA G H0.size)) 0 0 (gA G H0.size) := by
  refine Met.ofW (cc := cX12_orders) (maxL := 10) (ret := none) (by decide) rfl ?_
  intro p e s m args below meth c s₁ B hml hv
  obtain ⟨rfl, hH0, hK, hE⟩ := hv
  have hx := B.exec
  have hb := B.bytes
  have hr := B.returns
  have hts := atoms_spec (ws := w_s_orders6) B.pre
  have hown : s.vm.findClass RX12 = some m.cls := findClass_of_methodNamed B.named
  have hlocks := B.notSynchronized
  subst hH0
  generalize hAe : gA G s.heap.size = A at hE ⊢
  have hA : ∀ q : Nat, s.heap.size ≤ q → A q := fun q h => by rw [← hAe]; exact Or.inr h
  have hG := gA_of hAe
  have hS : va_S A s.heap s.heap [] := va_S.rf
  have hF : gF (dC, dI) SKm G ([(0, 77), (76, 0), (77, 0)] : List (Nat × Nat)) s.heap s.heap := gF.rf
  have hl := lv_entry ([.ref o0, .int 6, .int us, .int yr, .int ca, .int ic, .int su]) (n := 10) (Nat.le_of_ble_eq_true rfl)
  rw [lg_entry_eq]
  generalize (lg_sl ([.ref o0, .int 6, .int us, .int yr, .int ca, .int ic, .int su]) ++ List.replicate (10 - (lg_sl ([.ref o0, .int 6, .int us, .int yr, .int ca, .int ic, .int su])).length) Slot.unset).toArray = ls at hl ⊢
  have hl : lv_has ls 10 [(0, .ref o0), (1, .int 6), (2, .int us), (3, .int yr), (4, .int ca), (5, .int ic), (6, .int su)] := hl
  refine lv_iload_n hx hb dX12_orders_0 rfl (lv_at hl 1 rfl) ?_
  refine lv_aload_n hx hb dX12_orders_1 rfl (lv_at hl 0 rfl) ?_
  refine tw_getM (v := .int jb) hx hb hts bF_X12 hown hK hT hr_o0 shm_0 rfl 74 (by decide) (ht_at hts 0 rfl) (fun _ h9 => h9) hm_jb dX12_orders_2 ?_
  refine lv_icmp_ne (tgt := 61) hx hb dX12_orders_5 (by decide) (fun c1 => ?_) (fun c1 => ?_)
  · have t2 : 6 ≠ jb.toInt := ti_ne c1 (by decide) rfl
    refine lv_iconst (v := 0) hx hb dX12_orders_61 (by decide) ?_
    refine lv_istore (lv' := [(7, .int 0), (0, .ref o0), (1, .int 6), (2, .int us), (3, .int yr), (4, .int ca), (5, .int ic), (6, .int su)]) hx hb dX12_orders_62 hl (by decide) rfl (fun ls hl => ?_)
    have key180 : ∀ (n180 i3 : Nat), i3 + n180 = 7 → 0 ≤ i3 → ∀ (z4 : Int32), ((0 ≤ z4.toInt ∧ z4.toInt ≤ 200)) → ∀ (H : Heap) (locs : List Loc), gH (dC, dI) kA (SHm q (wP wZ wN wH wB wC wL wK wU wV) PI im PM PT lS lB lE lN) G H → gF (dC, dI) SKm G ([(0, 77), (76, 0), (77, 0)] : List (Nat × Nat)) s.heap H → va_S A s.heap H locs → el H o0 (dI 15 74) = some (.int jb) → ∀ ls : Array Slot, lv_has ls 10 [(7, .int (nI i3)), (0, .ref o0), (1, .int 6), (2, .int us), (3, .int z4), (4, .int ca), (5, .int ic), (6, .int su)] → W p l e (headSpec w_s_orders6 ({ frames := 1, cells := 0, slots := 0, locals := 29 })).room s m #[.ref o0, .int 6, .int us, .int yr, .int ca, .int ic, .int su] below meth c H locs 0 0 (MQ below (va_Qv (fun (u : Unit) => True) (fun (_ : Unit) (t : State) => gH (dC, dI) kA (SHm q (wP wZ wN wH wB wC wL wK wU wV) PI im PM PT lS lB lE lN) G t.heap ∧ gF (dC, dI) SKm G ([(0, 77), (76, 0), (77, 0)] : List (Nat × Nat)) s.heap t.heap) A) #[.ref o0, .int 6, .int us, .int yr, .int ca, .int ic, .int su] s 0 0 A) (F0 m 64 ls []) := by
      intro n180
      induction n180 with
      | zero =>
        intro i3 hn180 hlo181 z4 h5 H locs hT hF hS m6 ls hl
        obtain rfl : 7 = i3 := by omega
        refine lv_iload hx hb dX12_orders_64 (lv_at hl 0 rfl) ?_
        refine lv_aload_n hx hb dX12_orders_66 rfl (lv_at hl 1 rfl) ?_
        refine tw_getM (v := .int jb) hx hb hts bF_X12 hown hK hT hr_o0 shm_0 rfl 74 (by decide) (ht_at hts 0 rfl) (fun _ h9 => h9) m6 dX12_orders_67 ?_
        refine lv_icmp_ge (tgt := 231) hx hb dX12_orders_70 (by decide) (fun c182 => ?_) (fun c182 => (by exfalso; have q9 : ((7 : Nat) : Int) < jb.toInt := ti_nle c182 rfl (nI_toInt (by omega)); omega))
        have t183 : jb.toInt ≤ ((7 : Nat) : Int) := ti_le c182 rfl (nI_toInt (by omega))
        exact W.vret hx hb hr (fun t ht hW => ⟨⟨(), rfl, (by exact trivial), by (try dsimp only); rw [ht]; exact ⟨hT, hF⟩⟩, hS.F ht⟩) hS.2.2 dX12_orders_231
      | succ n180 ih180 =>
        intro i3 hn180 hlo181 z4 h5 H locs hT hF hS m6 ls hl
        have hlt183 : i3 < 7 := by omega
        refine lv_iload hx hb dX12_orders_64 (lv_at hl 0 rfl) ?_
        refine lv_aload_n hx hb dX12_orders_66 rfl (lv_at hl 1 rfl) ?_
        refine tw_getM (v := .int jb) hx hb hts bF_X12 hown hK hT hr_o0 shm_0 rfl 74 (by decide) (ht_at hts 0 rfl) (fun _ h9 => h9) m6 dX12_orders_67 ?_
        refine lv_icmp_ge (tgt := 231) hx hb dX12_orders_70 (by decide) (fun c184 => (by exfalso; have q9 : jb.toInt ≤ ((i3 : Nat) : Int) := ti_le c184 rfl (nI_toInt (by omega)); omega)) (fun c184 => ?_)
        have t185 : ((i3 : Nat) : Int) < jb.toInt := ti_nle c184 rfl (nI_toInt (by omega))
        refine lv_iload_n hx hb dX12_orders_73 rfl (lv_at hl 3 rfl) ?_
        refine lv_iload hx hb dX12_orders_74 (lv_at hl 0 rfl) ?_
        refine lv_ishr hx hb dX12_orders_76 ?_
        refine lv_topi (fun x186 ex186 => ?_)
        refine lv_iconst (v := 1) hx hb dX12_orders_77 (by decide) ?_
        refine lv_iand hx hb dX12_orders_78 ?_
        refine lv_topi (fun x187 ex187 => ?_)
        refine lv_iconst (v := 1) hx hb dX12_orders_79 (by decide) ?_
        refine lv_icmp_ne (tgt := 86) hx hb dX12_orders_80 (by decide) (fun c188 => ?_) (fun c188 => ?_)
        · have t189 : x187.toInt ≠ 1 := ti_ne c188 rfl (by decide)
          refine lv_iload_n hx hb dX12_orders_86 rfl (lv_at hl 4 rfl) ?_
          refine lv_istore (lv' := [(8, .int z4), (7, .int (nI i3)), (0, .ref o0), (1, .int 6), (2, .int us), (3, .int z4), (4, .int ca), (5, .int ic), (6, .int su)]) hx hb dX12_orders_87 hl (by decide) rfl (fun ls hl => ?_)
          refine lv_iload hx hb dX12_orders_89 (lv_at hl 6 rfl) ?_
          refine lv_istore (lv' := [(9, .int ca), (8, .int z4), (7, .int (nI i3)), (0, .ref o0), (1, .int 6), (2, .int us), (3, .int z4), (4, .int ca), (5, .int ic), (6, .int su)]) hx hb dX12_orders_91 hl (by decide) rfl (fun ls hl => ?_)
          obtain ⟨k190, hk190, lk190, ek190⟩ := ti_nat z4 (by omega)
          subst ek190
          have jn283 : ∀ (z277 : Int32), ∀ (z278 : Int32), ∀ (z281 : Int32), ((0 ≤ z278.toInt ∧ z278.toInt ≤ 201)) → ∀ (H : Heap) (locs : List Loc), gH (dC, dI) kA (SHm q (wP wZ wN wH wB wC wL wK wU wV) PI im PM PT lS lB lE lN) G H → gF (dC, dI) SKm G ([(0, 77), (76, 0), (77, 0)] : List (Nat × Nat)) s.heap H → va_S A s.heap H locs → el H o0 (dI 15 74) = some (.int jb) → el H (q 70) (nI i3).toNatClampNeg = some (.int z281) → ∀ ls : Array Slot, lv_has ls 10 [(9, .int z277), (8, .int z278), (7, .int (nI i3)), (0, .ref o0), (1, .int 6), (2, .int us), (3, .int (nI k190)), (4, .int ca), (5, .int ic), (6, .int su)] → W p l e (headSpec w_s_orders6 ({ frames := 1, cells := 0, slots := 0, locals := 29 })).room s m #[.ref o0, .int 6, .int us, .int yr, .int ca, .int ic, .int su] below meth c H locs 0 0 (MQ below (va_Qv (fun (u : Unit) => True) (fun (_ : Unit) (t : State) => gH (dC, dI) kA (SHm q (wP wZ wN wH wB wC wL wK wU wV) PI im PM PT lS lB lE lN) G t.heap ∧ gF (dC, dI) SKm G ([(0, 77), (76, 0), (77, 0)] : List (Nat × Nat)) s.heap t.heap) A) #[.ref o0, .int 6, .int us, .int yr, .int ca, .int ic, .int su] s 0 0 A) (F0 m 126 ls []) := by
            intro z277 z278 z281 h279 H locs hT hF hS m280 m282 ls hl
            refine lv_iload hx hb dX12_orders_126 (lv_at hl 0 rfl) ?_
            refine lv_aload_n hx hb dX12_orders_128 rfl (lv_at hl 3 rfl) ?_
            refine tw_get hx hb hts bF_X12 hown hK hT hr_o0 shm_0 rfl 70 (by decide) (ht_at hts 1 rfl) (fun _ h9 => h9) dX12_orders_129 (fun v9 m284 h9 => ?_)
            obtain ⟨rfl, hg285⟩ := h9 _ rfl
            refine lv_iload hx hb dX12_orders_132 (lv_at hl 2 rfl) ?_
            refine tw_iald (i := (nI i3)) hx hb hK hT hg285 shm_71 rfl (vp_in_nI (by omega) (by decide)) dX12_orders_134 (fun v9 m286 h9 => ?_)
            obtain ⟨x287, rfl, gx287, kx287⟩ := h9
            obtain rfl : z281 = x287 := (el_same m286 m282 rfl).symm
            refine lv_isub hx hb dX12_orders_135 ?_
            refine lv_topi (fun x288 ex288 => ?_)
            refine lv_istore (lv' := [(9, .int x288), (8, .int z278), (7, .int (nI i3)), (0, .ref o0), (1, .int 6), (2, .int us), (3, .int (nI k190)), (4, .int ca), (5, .int ic), (6, .int su)]) hx hb dX12_orders_136 hl (by decide) rfl (fun ls hl => ?_)
            refine lv_iload hx hb dX12_orders_138 (lv_at hl 1 rfl) ?_
            refine lv_aload_n hx hb dX12_orders_140 rfl (lv_at hl 3 rfl) ?_
            refine tw_get hx hb hts bF_X12 hown hK hT hr_o0 shm_0 rfl 71 (by decide) (ht_at hts 2 rfl) (fun _ h9 => h9) dX12_orders_141 (fun v9 m289 h9 => ?_)
            obtain ⟨rfl, hg290⟩ := h9 _ rfl
            refine lv_iload hx hb dX12_orders_144 (lv_at hl 2 rfl) ?_
            refine tw_iald (i := (nI i3)) hx hb hK hT hg290 shm_72 rfl (vp_in_nI (by omega) (by decide)) dX12_orders_146 (fun v9 m291 h9 => ?_)
            obtain ⟨x292, rfl, gx292, kx292⟩ := h9
            refine lv_iadd hx hb dX12_orders_147 ?_
            refine lv_topi (fun x293 ex293 => ?_)
            have t294 : x293.toInt = z278.toInt + x292.toInt := ti_add ex293 rfl rfl (by omega) (by omega)
            refine lv_istore (lv' := [(8, .int x293), (9, .int x288), (7, .int (nI i3)), (0, .ref o0), (1, .int 6), (2, .int us), (3, .int (nI k190)), (4, .int ca), (5, .int ic), (6, .int su)]) hx hb dX12_orders_148 hl (by decide) rfl (fun ls hl => ?_)
            refine lv_iload hx hb dX12_orders_150 (lv_at hl 1 rfl) ?_
            refine lv_if_lt (tgt := 225) hx hb dX12_orders_152 (by decide) (fun c295 => ?_) (fun c295 => ?_)
            · have t296 : x288.toInt < 0 := ti_lt c295 rfl (by decide)
              refine lv_iinc (v := nI (i3 + 1)) (lv' := [(7, .int (nI (i3 + 1))), (8, .int x293), (9, .int x288), (0, .ref o0), (1, .int 6), (2, .int us), (3, .int (nI k190)), (4, .int ca), (5, .int ic), (6, .int su)]) hx hb dX12_orders_225 hl (k := 2) rfl (nI_add i3 1) (by decide) rfl (fun ls hl => ?_)
              refine lv_goto (tgt := 64) hx hb dX12_orders_228 (by decide) ?_
              exact ih180 (i3 + 1) (by omega) (by omega) (nI k190) (rg_t (a := ((k190 : Nat) : Int)) (nI_toInt (by omega)) (by omega) (by omega)) _ _ hT hF hS m280 ls (lv_sub hl [0, 3, 4, 5, 6, 7, 8, 9] rfl)
            · have t297 : 0 ≤ x288.toInt := ti_nlt c295 rfl (by decide)
              refine lv_iload hx hb dX12_orders_155 (lv_at hl 0 rfl) ?_
              refine lv_sipush (v := 200) hx hb dX12_orders_157 (by decide) ?_
              refine lv_icmp_le (tgt := 166) hx hb dX12_orders_160 (by decide) (fun c298 => ?_) (fun c298 => ?_)
              · have t299 : x293.toInt ≤ 200 := ti_le c298 rfl (by decide)
                refine lv_aload_n hx hb dX12_orders_166 rfl (lv_at hl 3 rfl) ?_
                refine tw_get hx hb hts bF_X12 hown hK hT hr_o0 shm_0 rfl 75 (by decide) (ht_at hts 3 rfl) (fun _ h9 => h9) dX12_orders_167 (fun v9 m300 h9 => ?_)
                obtain ⟨rfl, hg301⟩ := h9 _ rfl
                refine lv_iload_n hx hb dX12_orders_170 rfl (lv_at hl 4 rfl) ?_
                refine lv_iload hx hb dX12_orders_171 (lv_at hl 2 rfl) ?_
                refine tw_iast (i := 6) (x := (nI i3)) hx hb hK hT hG hS hg301 shm_76 rfl (by unfold vp_in; decide) (gi_all _) dX12_orders_173 (fun H locs hT oq m302 oi hS => ?_)
                have hF := hF.ast hg301 skm_76 oq (by decide)
                have m303 := (el_kept (oq _ (gne hr_o0 hg301 (by decide)))).trans m280
                have m305 := (el_kept (oq _ (gne hg290 hg301 (by decide)))).trans m291
                refine lv_aload_n hx hb dX12_orders_174 rfl (lv_at hl 3 rfl) ?_
                refine lv_iload_n hx hb dX12_orders_175 rfl (lv_at hl 4 rfl) ?_
                refine lv_iconst (v := 1) hx hb dX12_orders_176 (by decide) ?_
                refine lv_iadd hx hb dX12_orders_177 ?_
                refine lv_topi (fun x306 ex306 => ?_)
                obtain rfl : x306 = 7 := ex306.trans (by decide)
                refine lv_iload_n hx hb dX12_orders_178 rfl (lv_at hl 5 rfl) ?_
                refine lv_iconst (v := 1) hx hb dX12_orders_179 (by decide) ?_
                refine lv_iload hx hb dX12_orders_180 (lv_at hl 2 rfl) ?_
                refine lv_ishl hx hb dX12_orders_182 ?_
                refine lv_topi (fun x307 ex307 => ?_)
                refine lv_ior hx hb dX12_orders_183 ?_
                refine lv_topi (fun x308 ex308 => ?_)
                refine lv_iload hx hb dX12_orders_184 (lv_at hl 0 rfl) ?_
                refine lv_iload hx hb dX12_orders_186 (lv_at hl 1 rfl) ?_
                refine lv_iload hx hb dX12_orders_188 (lv_at hl 8 rfl) ?_
                refine lv_aload_n hx hb dX12_orders_190 rfl (lv_at hl 3 rfl) ?_
                refine tw_get hx hb hts bF_X12 hown hK hT hr_o0 shm_0 rfl 71 (by decide) (ht_at hts 2 rfl) (fun _ h9 => h9) dX12_orders_191 (fun v9 m309 h9 => ?_)
                obtain ⟨rfl, hg310⟩ := h9 _ rfl
                refine lv_iload hx hb dX12_orders_194 (lv_at hl 2 rfl) ?_
                refine tw_iald (i := (nI i3)) hx hb hK hT hg290 shm_72 rfl (vp_in_nI (by omega) (by decide)) dX12_orders_196 (fun v9 m311 h9 => ?_)
                obtain ⟨x312, rfl, gx312, kx312⟩ := h9
                obtain rfl : x292 = x312 := (el_same m311 m305 rfl).symm
                refine lv_imul hx hb dX12_orders_197 ?_
                refine lv_topi (fun x313 ex313 => ?_)
                refine lv_iadd hx hb dX12_orders_198 ?_
                refine lv_topi (fun x314 ex314 => ?_)
                refine lv_iload hx hb dX12_orders_199 (lv_at hl 8 rfl) ?_
                refine lv_aload_n hx hb dX12_orders_201 rfl (lv_at hl 3 rfl) ?_
                refine tw_get hx hb hts bF_X12 hown hK hT hr_o0 shm_0 rfl 72 (by decide) (ht_at hts 4 rfl) (fun _ h9 => h9) dX12_orders_202 (fun v9 m315 h9 => ?_)
                obtain ⟨rfl, hg316⟩ := h9 _ rfl
                refine lv_iload hx hb dX12_orders_205 (lv_at hl 2 rfl) ?_
                refine tw_iald (i := (nI i3)) hx hb hK hT hg316 shm_73 rfl (vp_in_nI (by omega) (by decide)) dX12_orders_207 (fun v9 m317 h9 => ?_)
                obtain ⟨x318, rfl, gx318, kx318⟩ := h9
                refine lv_iadd hx hb dX12_orders_208 ?_
                refine lv_topi (fun x319 ex319 => ?_)
                refine lv_iload hx hb dX12_orders_209 (lv_at hl 9 rfl) ?_
                refine lv_aload_n hx hb dX12_orders_211 rfl (lv_at hl 3 rfl) ?_
                refine tw_get hx hb hts bF_X12 hown hK hT hr_o0 shm_0 rfl 73 (by decide) (ht_at hts 5 rfl) (fun _ h9 => h9) dX12_orders_212 (fun v9 m320 h9 => ?_)
                obtain ⟨rfl, hg321⟩ := h9 _ rfl
                refine lv_iload hx hb dX12_orders_215 (lv_at hl 2 rfl) ?_
                refine tw_iald (i := (nI i3)) hx hb hK hT hg321 shm_74 rfl (vp_in_nI (by omega) (by decide)) dX12_orders_217 (fun v9 m322 h9 => ?_)
                obtain ⟨x323, rfl, gx323, kx323⟩ := h9
                refine lv_iload hx hb dX12_orders_218 (lv_at hl 0 rfl) ?_
                refine lv_imul hx hb dX12_orders_220 ?_
                refine lv_topi (fun x324 ex324 => ?_)
                refine lv_iadd hx hb dX12_orders_221 ?_
                refine lv_topi (fun x325 ex325 => ?_)
                have hFc := gA_free hG hA hS
                refine va_callv (va_runV (As := [.int 7, .int x308, .int x293, .int x314, .int x319, .int x325]) (rest := []) ⟨hx, hb, hml, hown, hts⟩ (s_orders7 l dC dI kA adK adV G H q wZ wN wH wB wC wL wK wU wV PI im PM PT lS lB lE lN o0 x308 x293 x314 x319 x325 jb hT hr_o0 m303 (by have q8 := ti_all x293; omega) (by have q8 := ti_all jb; omega) hgz hgn hgh hgb hgc hgi hgu) (cwV 6 hts (goodIn_app (goodIn_r _ [10, 11, 12, 13] rfl (by decide +kernel)) (goodIn_ca (goodIn_r _ [7, 1, 8, 9, 4] rfl (by decide +kernel)) (bs_in _ _))) rfl rfl rfl (by decide +kernel) ⟨(Nat.le_of_ble_eq_true rfl), (Nat.le_of_ble_eq_true rfl)⟩) ⟨fun a U g mk q => by obtain ⟨q0, q1, qK, qE⟩ := q; exact ⟨q0, q1, va_K.moved (u := U) (U := U.calling g mk a) (Vm.Alike.refl U.vm) qK, EVS.blind g mk a qE⟩, gH_rc hK hT hr_o0 shm_0 rfl, fun U hU hW => ⟨rfl, hU, va_K.moved hW.alike hK, hE.call hS hFc hU hW⟩⟩ rfl rfl hl.1 rfl (lv_room (Nat.le_of_ble_eq_true rfl)) dX12_orders_222 ⟨(Nat.le_of_ble_eq_true rfl), (Nat.le_of_ble_eq_true rfl)⟩) hS (fun q _ h => hFc q h) hFc (fun u t H locs ht hvm hw327 hB _ _ hS => ?_)
                obtain ⟨hT, hF1⟩ := hB
                rw [ht] at hT hF1
                have m328 := (hF1.fld hr_o0 skm_0 (k := 74) (by decide) (by decide)).trans m303
                have hF := hF.more hF1 (by decide)
                try dsimp only at hw327
                refine lv_iinc (v := nI (i3 + 1)) (lv' := [(7, .int (nI (i3 + 1))), (8, .int x293), (9, .int x288), (0, .ref o0), (1, .int 6), (2, .int us), (3, .int (nI k190)), (4, .int ca), (5, .int ic), (6, .int su)]) hx hb dX12_orders_225 hl (k := 2) rfl (nI_add i3 1) (by decide) rfl (fun ls hl => ?_)
                refine lv_goto (tgt := 64) hx hb dX12_orders_228 (by decide) ?_
                exact ih180 (i3 + 1) (by omega) (by omega) (nI k190) (rg_t (a := ((k190 : Nat) : Int)) (nI_toInt (by omega)) (by omega) (by omega)) _ _ hT hF hS m328 ls (lv_sub hl [0, 3, 4, 5, 6, 7, 8, 9] rfl)
              · have t334 : 200 < x293.toInt := ti_nle c298 rfl (by decide)
                refine lv_goto (tgt := 225) hx hb dX12_orders_163 (by decide) ?_
                refine lv_iinc (v := nI (i3 + 1)) (lv' := [(7, .int (nI (i3 + 1))), (8, .int x293), (9, .int x288), (0, .ref o0), (1, .int 6), (2, .int us), (3, .int (nI k190)), (4, .int ca), (5, .int ic), (6, .int su)]) hx hb dX12_orders_225 hl (k := 2) rfl (nI_add i3 1) (by decide) rfl (fun ls hl => ?_)
                refine lv_goto (tgt := 64) hx hb dX12_orders_228 (by decide) ?_
                exact ih180 (i3 + 1) (by omega) (by omega) (nI k190) (rg_t (a := ((k190 : Nat) : Int)) (nI_toInt (by omega)) (by omega) (by omega)) _ _ hT hF hS m280 ls (lv_sub hl [0, 3, 4, 5, 6, 7, 8, 9] rfl)
          have key335 : ∀ (n335 i191 : Nat), i191 + n335 = 201 → k190 ≤ i191 → ∀ (z192 : Int32), ∀ (H : Heap) (locs : List Loc), gH (dC, dI) kA (SHm q (wP wZ wN wH wB wC wL wK wU wV) PI im PM PT lS lB lE lN) G H → gF (dC, dI) SKm G ([(0, 77), (76, 0), (77, 0)] : List (Nat × Nat)) s.heap H → va_S A s.heap H locs → el H o0 (dI 15 74) = some (.int jb) → ∀ ls : Array Slot, lv_has ls 10 [(9, .int z192), (8, .int (nI i191)), (7, .int (nI i3)), (0, .ref o0), (1, .int 6), (2, .int us), (3, .int (nI k190)), (4, .int ca), (5, .int ic), (6, .int su)] → W p l e (headSpec w_s_orders6 ({ frames := 1, cells := 0, slots := 0, locals := 29 })).room s m #[.ref o0, .int 6, .int us, .int yr, .int ca, .int ic, .int su] below meth c H locs 0 0 (MQ below (va_Qv (fun (u : Unit) => True) (fun (_ : Unit) (t : State) => gH (dC, dI) kA (SHm q (wP wZ wN wH wB wC wL wK wU wV) PI im PM PT lS lB lE lN) G t.heap ∧ gF (dC, dI) SKm G ([(0, 77), (76, 0), (77, 0)] : List (Nat × Nat)) s.heap t.heap) A) #[.ref o0, .int 6, .int us, .int yr, .int ca, .int ic, .int su] s 0 0 A) (F0 m 93 ls []) := by
            intro n335
            induction n335 with
            | zero =>
              intro i191 hn335 hlo336 z192 H locs hT hF hS m193 ls hl
              obtain rfl : 201 = i191 := by omega
              refine lv_iload hx hb dX12_orders_93 (lv_at hl 0 rfl) ?_
              refine lv_aload_n hx hb dX12_orders_95 rfl (lv_at hl 3 rfl) ?_
              refine tw_get hx hb hts bF_X12 hown hK hT hr_o0 shm_0 rfl 70 (by decide) (ht_at hts 1 rfl) (fun _ h9 => h9) dX12_orders_96 (fun v9 m337 h9 => ?_)
              obtain ⟨rfl, hg338⟩ := h9 _ rfl
              refine lv_iload hx hb dX12_orders_99 (lv_at hl 2 rfl) ?_
              refine tw_iald (i := (nI i3)) hx hb hK hT hg338 shm_71 rfl (vp_in_nI (by omega) (by decide)) dX12_orders_101 (fun v9 m339 h9 => ?_)
              obtain ⟨x340, rfl, gx340, kx340⟩ := h9
              refine lv_icmp_ge (tgt := 126) hx hb dX12_orders_102 (by decide) (fun c341 => ?_) (fun c341 => ?_)
              · have t342 : x340.toInt ≤ z192.toInt := ti_le c341 rfl rfl
                exact jn283 z192 (nI 201) x340 (rg_t (a := ((201 : Nat) : Int)) (nI_toInt (by omega)) (by omega) (by omega)) _ _ hT hF hS m193 m339 ls (lv_sub hl [0, 1, 2, 3, 4, 5, 6, 7, 8, 9] rfl)
              · have t343 : z192.toInt < x340.toInt := ti_nle c341 rfl rfl
                refine lv_iload hx hb dX12_orders_105 (lv_at hl 1 rfl) ?_
                refine lv_sipush (v := 200) hx hb dX12_orders_107 (by decide) ?_
                refine lv_icmp_gt (tgt := 126) hx hb dX12_orders_110 (by decide) (fun c344 => ?_) (fun c344 => (by exfalso; have q9 : ((201 : Nat) : Int) ≤ 200 := ti_nlt c344 (by decide) (nI_toInt (by omega)); omega))
                have t345 : 200 < ((201 : Nat) : Int) := ti_lt c344 (by decide) (nI_toInt (by omega))
                exact jn283 z192 (nI 201) x340 (rg_t (a := ((201 : Nat) : Int)) (nI_toInt (by omega)) (by omega) (by omega)) _ _ hT hF hS m193 m339 ls (lv_sub hl [0, 1, 2, 3, 4, 5, 6, 7, 8, 9] rfl)
            | succ n335 ih335 =>
              intro i191 hn335 hlo336 z192 H locs hT hF hS m193 ls hl
              have hlt345 : i191 < 201 := by omega
              refine lv_iload hx hb dX12_orders_93 (lv_at hl 0 rfl) ?_
              refine lv_aload_n hx hb dX12_orders_95 rfl (lv_at hl 3 rfl) ?_
              refine tw_get hx hb hts bF_X12 hown hK hT hr_o0 shm_0 rfl 70 (by decide) (ht_at hts 1 rfl) (fun _ h9 => h9) dX12_orders_96 (fun v9 m346 h9 => ?_)
              obtain ⟨rfl, hg347⟩ := h9 _ rfl
              refine lv_iload hx hb dX12_orders_99 (lv_at hl 2 rfl) ?_
              refine tw_iald (i := (nI i3)) hx hb hK hT hg347 shm_71 rfl (vp_in_nI (by omega) (by decide)) dX12_orders_101 (fun v9 m348 h9 => ?_)
              obtain ⟨x349, rfl, gx349, kx349⟩ := h9
              refine lv_icmp_ge (tgt := 126) hx hb dX12_orders_102 (by decide) (fun c350 => ?_) (fun c350 => ?_)
              · have t351 : x349.toInt ≤ z192.toInt := ti_le c350 rfl rfl
                exact jn283 z192 (nI i191) x349 (rg_t (a := ((i191 : Nat) : Int)) (nI_toInt (by omega)) (by omega) (by omega)) _ _ hT hF hS m193 m348 ls (lv_sub hl [0, 1, 2, 3, 4, 5, 6, 7, 8, 9] rfl)
              · have t352 : z192.toInt < x349.toInt := ti_nle c350 rfl rfl
                refine lv_iload hx hb dX12_orders_105 (lv_at hl 1 rfl) ?_
                refine lv_sipush (v := 200) hx hb dX12_orders_107 (by decide) ?_
                refine lv_icmp_gt (tgt := 126) hx hb dX12_orders_110 (by decide) (fun c353 => (by exfalso; have q9 : 200 < ((i191 : Nat) : Int) := ti_lt c353 (by decide) (nI_toInt (by omega)); omega)) (fun c353 => ?_)
                have t354 : ((i191 : Nat) : Int) ≤ 200 := ti_nlt c353 (by decide) (nI_toInt (by omega))
                refine lv_iinc (v := nI (i191 + 1)) (lv' := [(8, .int (nI (i191 + 1))), (9, .int z192), (7, .int (nI i3)), (0, .ref o0), (1, .int 6), (2, .int us), (3, .int (nI k190)), (4, .int ca), (5, .int ic), (6, .int su)]) hx hb dX12_orders_113 hl (k := 1) rfl (nI_add i191 1) (by decide) rfl (fun ls hl => ?_)
                refine lv_iload hx hb dX12_orders_116 (lv_at hl 1 rfl) ?_
                refine lv_iload hx hb dX12_orders_118 (lv_at hl 8 rfl) ?_
                refine lv_iadd hx hb dX12_orders_120 ?_
                refine lv_topi (fun x355 ex355 => ?_)
                refine lv_istore (lv' := [(9, .int x355), (8, .int (nI (i191 + 1))), (7, .int (nI i3)), (0, .ref o0), (1, .int 6), (2, .int us), (3, .int (nI k190)), (4, .int ca), (5, .int ic), (6, .int su)]) hx hb dX12_orders_121 hl (by decide) rfl (fun ls hl => ?_)
                refine lv_goto (tgt := 93) hx hb dX12_orders_123 (by decide) ?_
                exact ih335 (i191 + 1) (by omega) (by omega) x355 _ _ hT hF hS m193 ls (lv_sub hl [0, 1, 2, 3, 4, 5, 6, 7, 8, 9] rfl)
          exact key335 (201 - k190) k190 (by omega) (Nat.le_refl _) ca _ _ hT hF hS m6 ls (lv_sub hl [0, 1, 2, 3, 4, 5, 6, 7, 8, 9] rfl)
        · have t356 : x187.toInt = 1 := ti_eq c188 rfl (by decide)
          refine lv_goto (tgt := 225) hx hb dX12_orders_83 (by decide) ?_
          refine lv_iinc (v := nI (i3 + 1)) (lv' := [(7, .int (nI (i3 + 1))), (0, .ref o0), (1, .int 6), (2, .int us), (3, .int z4), (4, .int ca), (5, .int ic), (6, .int su)]) hx hb dX12_orders_225 hl (k := 0) rfl (nI_add i3 1) (by decide) rfl (fun ls hl => ?_)
          refine lv_goto (tgt := 64) hx hb dX12_orders_228 (by decide) ?_
          exact ih180 (i3 + 1) (by omega) (by omega) z4 (by have q8 := ti_all z4; omega) _ _ hT hF hS m6 ls (lv_sub hl [0, 1, 2, 3, 4, 5, 6, 7] rfl)
    exact key180 (7 - 0) 0 (by omega) (Nat.le_refl _) yr (by have q8 := ti_all yr; omega) _ _ hT hF hS hm_jb ls (lv_sub hl [0, 1, 2, 3, 4, 5, 6, 7] rfl)
  · have t357 : 6 = jb.toInt := ti_eq c1 (by decide) rfl
    refine lv_aload_n hx hb dX12_orders_8 rfl (lv_at hl 0 rfl) ?_
    refine tw_get hx hb hts bF_X12 hown hK hT hr_o0 shm_0 rfl 77 (by decide) (ht_at hts 7 rfl) (fun _ h9 => h9) dX12_orders_9 (fun v9 m358 h9 => ?_)
    obtain ⟨x359, rfl, gx359, kx359⟩ := h9 _ rfl
    refine lv_if_lt (tgt := 25) hx hb dX12_orders_12 (by decide) (fun c360 => ?_) (fun c360 => ?_)
    · have t361 : x359.toInt < 0 := ti_lt c360 rfl (by decide)
      refine lv_aload_n hx hb dX12_orders_25 rfl (lv_at hl 0 rfl) ?_
      refine lv_iload hx hb dX12_orders_26 (lv_at hl 6 rfl) ?_
      refine tw_put (v := .int su) (ty := .int) hx hb hts bF_X12 tyX12 tyX12_ok nmX12 hown hK hT hG hS hr_o0 shm_0 rfl 77 (by decide) (ht_at hts 7 rfl) (fun _ h9 => h9) rfl (by decide +kernel) rfl rfl (gl_at rfl (gi_all _)) dX12_orders_28 (fun H locs hT oq m362 oj hS => ?_)
      have hF := hF.put hr_o0 skm_0 oq oj (by decide)
      have m363 := (oj 74 (by decide) (by decide)).trans hm_jb
      refine lv_iconst (v := 0) hx hb dX12_orders_31 (by decide) ?_
      refine lv_istore (lv' := [(7, .int 0), (0, .ref o0), (1, .int 6), (2, .int us), (3, .int yr), (4, .int ca), (5, .int ic), (6, .int su)]) hx hb dX12_orders_32 hl (by decide) rfl (fun ls hl => ?_)
      have key379 : ∀ (n379 i364 : Nat), i364 + n379 = 6 → 0 ≤ i364 → ∀ (H : Heap) (locs : List Loc), gH (dC, dI) kA (SHm q (wP wZ wN wH wB wC wL wK wU wV) PI im PM PT lS lB lE lN) G H → gF (dC, dI) SKm G ([(0, 77), (76, 0), (77, 0)] : List (Nat × Nat)) s.heap H → va_S A s.heap H locs → el H o0 (dI 15 74) = some (.int jb) → el H o0 (dI 15 77) = some (.int su) → ∀ ls : Array Slot, lv_has ls 10 [(7, .int (nI i364)), (0, .ref o0), (1, .int 6), (2, .int us), (3, .int yr), (4, .int ca), (5, .int ic), (6, .int su)] → W p l e (headSpec w_s_orders6 ({ frames := 1, cells := 0, slots := 0, locals := 29 })).room s m #[.ref o0, .int 6, .int us, .int yr, .int ca, .int ic, .int su] below meth c H locs 0 0 (MQ below (va_Qv (fun (u : Unit) => True) (fun (_ : Unit) (t : State) => gH (dC, dI) kA (SHm q (wP wZ wN wH wB wC wL wK wU wV) PI im PM PT lS lB lE lN) G t.heap ∧ gF (dC, dI) SKm G ([(0, 77), (76, 0), (77, 0)] : List (Nat × Nat)) s.heap t.heap) A) #[.ref o0, .int 6, .int us, .int yr, .int ca, .int ic, .int su] s 0 0 A) (F0 m 34 ls []) := by
        intro n379
        induction n379 with
        | zero =>
          intro i364 hn379 hlo380  H locs hT hF hS m365 m366 ls hl
          obtain rfl : 6 = i364 := by omega
          refine lv_iload hx hb dX12_orders_34 (lv_at hl 0 rfl) ?_
          refine lv_iload_n hx hb dX12_orders_36 rfl (lv_at hl 2 rfl) ?_
          refine lv_icmp_ge (tgt := 60) hx hb dX12_orders_37 (by decide) (fun c381 => ?_) (fun c381 => (by exfalso; have q9 : ((6 : Nat) : Int) < 6 := ti_nle c381 (by decide) (nI_toInt (by omega)); omega))
          have t382 : 6 ≤ ((6 : Nat) : Int) := ti_le c381 (by decide) (nI_toInt (by omega))
          exact W.vret hx hb hr (fun t ht hW => ⟨⟨(), rfl, (by exact trivial), by (try dsimp only); rw [ht]; exact ⟨hT, hF⟩⟩, hS.F ht⟩) hS.2.2 dX12_orders_60
        | succ n379 ih379 =>
          intro i364 hn379 hlo380  H locs hT hF hS m365 m366 ls hl
          have hlt382 : i364 < 6 := by omega
          refine lv_iload hx hb dX12_orders_34 (lv_at hl 0 rfl) ?_
          refine lv_iload_n hx hb dX12_orders_36 rfl (lv_at hl 2 rfl) ?_
          refine lv_icmp_ge (tgt := 60) hx hb dX12_orders_37 (by decide) (fun c383 => (by exfalso; have q9 : 6 ≤ ((i364 : Nat) : Int) := ti_le c383 (by decide) (nI_toInt (by omega)); omega)) (fun c383 => ?_)
          have t384 : ((i364 : Nat) : Int) < 6 := ti_nle c383 (by decide) (nI_toInt (by omega))
          refine lv_aload_n hx hb dX12_orders_40 rfl (lv_at hl 1 rfl) ?_
          refine tw_get hx hb hts bF_X12 hown hK hT hr_o0 shm_0 rfl 76 (by decide) (ht_at hts 8 rfl) (fun _ h9 => h9) dX12_orders_41 (fun v9 m385 h9 => ?_)
          obtain ⟨rfl, hg386⟩ := h9 _ rfl
          refine lv_iload hx hb dX12_orders_44 (lv_at hl 0 rfl) ?_
          refine lv_aload_n hx hb dX12_orders_46 rfl (lv_at hl 1 rfl) ?_
          refine tw_get hx hb hts bF_X12 hown hK hT hr_o0 shm_0 rfl 75 (by decide) (ht_at hts 3 rfl) (fun _ h9 => h9) dX12_orders_47 (fun v9 m387 h9 => ?_)
          obtain ⟨rfl, hg388⟩ := h9 _ rfl
          refine lv_iload hx hb dX12_orders_50 (lv_at hl 0 rfl) ?_
          refine tw_iald (i := (nI i364)) hx hb hK hT hg388 shm_76 rfl (vp_in_nI (by omega) (by decide)) dX12_orders_52 (fun v9 m389 h9 => ?_)
          obtain ⟨x390, rfl, gx390, kx390⟩ := h9
          refine tw_iast (i := (nI i364)) (x := x390) hx hb hK hT hG hS hg386 shm_77 rfl (vp_in_nI (by omega) (by decide)) (gi_all _) dX12_orders_53 (fun H locs hT oq m391 oi hS => ?_)
          have hF := hF.ast hg386 skm_77 oq (by decide)
          have m392 := (el_kept (oq _ (gne hr_o0 hg386 (by decide)))).trans m365
          have m393 := (el_kept (oq _ (gne hr_o0 hg386 (by decide)))).trans m366
          refine lv_iinc (v := nI (i364 + 1)) (lv' := [(7, .int (nI (i364 + 1))), (0, .ref o0), (1, .int 6), (2, .int us), (3, .int yr), (4, .int ca), (5, .int ic), (6, .int su)]) hx hb dX12_orders_54 hl (k := 0) rfl (nI_add i364 1) (by decide) rfl (fun ls hl => ?_)
          refine lv_goto (tgt := 34) hx hb dX12_orders_57 (by decide) ?_
          exact ih379 (i364 + 1) (by omega) (by omega) _ _ hT hF hS m392 m393 ls (lv_sub hl [0, 1, 2, 3, 4, 5, 6, 7] rfl)
      exact key379 (6 - 0) 0 (by omega) (Nat.le_refl _) _ _ hT hF hS m363 m362 ls (lv_sub hl [0, 1, 2, 3, 4, 5, 6, 7] rfl)
    · have t395 : 0 ≤ x359.toInt := ti_nlt c360 rfl (by decide)
      refine lv_iload hx hb dX12_orders_15 (lv_at hl 6 rfl) ?_
      refine lv_aload_n hx hb dX12_orders_17 rfl (lv_at hl 0 rfl) ?_
      refine tw_getM (v := .int x359) hx hb hts bF_X12 hown hK hT hr_o0 shm_0 rfl 77 (by decide) (ht_at hts 7 rfl) (fun _ h9 => h9) m358 dX12_orders_18 ?_
      refine lv_icmp_lt (tgt := 25) hx hb dX12_orders_21 (by decide) (fun c396 => ?_) (fun c396 => ?_)
      · have t397 : su.toInt < x359.toInt := ti_lt c396 rfl rfl
        refine lv_aload_n hx hb dX12_orders_25 rfl (lv_at hl 0 rfl) ?_
        refine lv_iload hx hb dX12_orders_26 (lv_at hl 6 rfl) ?_
        refine tw_put (v := .int su) (ty := .int) hx hb hts bF_X12 tyX12 tyX12_ok nmX12 hown hK hT hG hS hr_o0 shm_0 rfl 77 (by decide) (ht_at hts 7 rfl) (fun _ h9 => h9) rfl (by decide +kernel) rfl rfl (gl_at rfl (gi_all _)) dX12_orders_28 (fun H locs hT oq m398 oj hS => ?_)
        have hF := hF.put hr_o0 skm_0 oq oj (by decide)
        have m399 := (oj 74 (by decide) (by decide)).trans hm_jb
        refine lv_iconst (v := 0) hx hb dX12_orders_31 (by decide) ?_
        refine lv_istore (lv' := [(7, .int 0), (0, .ref o0), (1, .int 6), (2, .int us), (3, .int yr), (4, .int ca), (5, .int ic), (6, .int su)]) hx hb dX12_orders_32 hl (by decide) rfl (fun ls hl => ?_)
        have key415 : ∀ (n415 i400 : Nat), i400 + n415 = 6 → 0 ≤ i400 → ∀ (H : Heap) (locs : List Loc), gH (dC, dI) kA (SHm q (wP wZ wN wH wB wC wL wK wU wV) PI im PM PT lS lB lE lN) G H → gF (dC, dI) SKm G ([(0, 77), (76, 0), (77, 0)] : List (Nat × Nat)) s.heap H → va_S A s.heap H locs → el H o0 (dI 15 74) = some (.int jb) → el H o0 (dI 15 77) = some (.int su) → ∀ ls : Array Slot, lv_has ls 10 [(7, .int (nI i400)), (0, .ref o0), (1, .int 6), (2, .int us), (3, .int yr), (4, .int ca), (5, .int ic), (6, .int su)] → W p l e (headSpec w_s_orders6 ({ frames := 1, cells := 0, slots := 0, locals := 29 })).room s m #[.ref o0, .int 6, .int us, .int yr, .int ca, .int ic, .int su] below meth c H locs 0 0 (MQ below (va_Qv (fun (u : Unit) => True) (fun (_ : Unit) (t : State) => gH (dC, dI) kA (SHm q (wP wZ wN wH wB wC wL wK wU wV) PI im PM PT lS lB lE lN) G t.heap ∧ gF (dC, dI) SKm G ([(0, 77), (76, 0), (77, 0)] : List (Nat × Nat)) s.heap t.heap) A) #[.ref o0, .int 6, .int us, .int yr, .int ca, .int ic, .int su] s 0 0 A) (F0 m 34 ls []) := by
          intro n415
          induction n415 with
          | zero =>
            intro i400 hn415 hlo416  H locs hT hF hS m401 m402 ls hl
            obtain rfl : 6 = i400 := by omega
            refine lv_iload hx hb dX12_orders_34 (lv_at hl 0 rfl) ?_
            refine lv_iload_n hx hb dX12_orders_36 rfl (lv_at hl 2 rfl) ?_
            refine lv_icmp_ge (tgt := 60) hx hb dX12_orders_37 (by decide) (fun c417 => ?_) (fun c417 => (by exfalso; have q9 : ((6 : Nat) : Int) < 6 := ti_nle c417 (by decide) (nI_toInt (by omega)); omega))
            have t418 : 6 ≤ ((6 : Nat) : Int) := ti_le c417 (by decide) (nI_toInt (by omega))
            exact W.vret hx hb hr (fun t ht hW => ⟨⟨(), rfl, (by exact trivial), by (try dsimp only); rw [ht]; exact ⟨hT, hF⟩⟩, hS.F ht⟩) hS.2.2 dX12_orders_60
          | succ n415 ih415 =>
            intro i400 hn415 hlo416  H locs hT hF hS m401 m402 ls hl
            have hlt418 : i400 < 6 := by omega
            refine lv_iload hx hb dX12_orders_34 (lv_at hl 0 rfl) ?_
            refine lv_iload_n hx hb dX12_orders_36 rfl (lv_at hl 2 rfl) ?_
            refine lv_icmp_ge (tgt := 60) hx hb dX12_orders_37 (by decide) (fun c419 => (by exfalso; have q9 : 6 ≤ ((i400 : Nat) : Int) := ti_le c419 (by decide) (nI_toInt (by omega)); omega)) (fun c419 => ?_)
            have t420 : ((i400 : Nat) : Int) < 6 := ti_nle c419 (by decide) (nI_toInt (by omega))
            refine lv_aload_n hx hb dX12_orders_40 rfl (lv_at hl 1 rfl) ?_
            refine tw_get hx hb hts bF_X12 hown hK hT hr_o0 shm_0 rfl 76 (by decide) (ht_at hts 8 rfl) (fun _ h9 => h9) dX12_orders_41 (fun v9 m421 h9 => ?_)
            obtain ⟨rfl, hg422⟩ := h9 _ rfl
            refine lv_iload hx hb dX12_orders_44 (lv_at hl 0 rfl) ?_
            refine lv_aload_n hx hb dX12_orders_46 rfl (lv_at hl 1 rfl) ?_
            refine tw_get hx hb hts bF_X12 hown hK hT hr_o0 shm_0 rfl 75 (by decide) (ht_at hts 3 rfl) (fun _ h9 => h9) dX12_orders_47 (fun v9 m423 h9 => ?_)
            obtain ⟨rfl, hg424⟩ := h9 _ rfl
            refine lv_iload hx hb dX12_orders_50 (lv_at hl 0 rfl) ?_
            refine tw_iald (i := (nI i400)) hx hb hK hT hg424 shm_76 rfl (vp_in_nI (by omega) (by decide)) dX12_orders_52 (fun v9 m425 h9 => ?_)
            obtain ⟨x426, rfl, gx426, kx426⟩ := h9
            refine tw_iast (i := (nI i400)) (x := x426) hx hb hK hT hG hS hg422 shm_77 rfl (vp_in_nI (by omega) (by decide)) (gi_all _) dX12_orders_53 (fun H locs hT oq m427 oi hS => ?_)
            have hF := hF.ast hg422 skm_77 oq (by decide)
            have m428 := (el_kept (oq _ (gne hr_o0 hg422 (by decide)))).trans m401
            have m429 := (el_kept (oq _ (gne hr_o0 hg422 (by decide)))).trans m402
            refine lv_iinc (v := nI (i400 + 1)) (lv' := [(7, .int (nI (i400 + 1))), (0, .ref o0), (1, .int 6), (2, .int us), (3, .int yr), (4, .int ca), (5, .int ic), (6, .int su)]) hx hb dX12_orders_54 hl (k := 0) rfl (nI_add i400 1) (by decide) rfl (fun ls hl => ?_)
            refine lv_goto (tgt := 34) hx hb dX12_orders_57 (by decide) ?_
            exact ih415 (i400 + 1) (by omega) (by omega) _ _ hT hF hS m428 m429 ls (lv_sub hl [0, 1, 2, 3, 4, 5, 6, 7] rfl)
        exact key415 (6 - 0) 0 (by omega) (Nat.le_refl _) _ _ hT hF hS m399 m398 ls (lv_sub hl [0, 1, 2, 3, 4, 5, 6, 7] rfl)
      · have t431 : x359.toInt ≤ su.toInt := ti_nlt c396 rfl rfl
        exact W.vret hx hb hr (fun t ht hW => ⟨⟨(), rfl, (by exact trivial), by (try dsimp only); rw [ht]; exact ⟨hT, hF⟩⟩, hS.F ht⟩) hS.2.2 dX12_orders_24
