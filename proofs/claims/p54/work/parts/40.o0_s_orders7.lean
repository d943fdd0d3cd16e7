def w_s_orders7 : List Cond := .code yX12_orders cX12_orders 10 none :: (HAppend.hAppend (α := List Cond) (β := List Cond) (γ := List Cond) [.fieldLink RX12 553 "SeaLandModel" "jobs" "I", .fieldLink RX12 556 "SeaLandModel" "lateness" "I", .fieldLink RX12 191 "SeaLandModel" "bestRow" "[I", .fieldLink RX12 188 "SeaLandModel" "row" "[I"] bs)
set_option maxHeartbeats 4000000 in
set_option maxRecDepth 100000 in
theorem s_orders7 (l : Launch) (dC : Nat → ClassId) (dI : Nat → Nat → Nat) (kA : Nat → ClassId) (adK adV : Nat → Nat) (G : gT) (H0 : Heap) (q : Nat → Nat) (wZ wN : Nat → Int) (wH wB wC : Int) (wL wK : Nat → Prop) (wU wV : Nat → Nat) (PI : Nat → Int → Prop) (im : Int) (PM PT : Nat → Int → Prop) (lS lB lE : Nat → Nat → Int → Prop) (lN : Nat → Int) (o0 : Nat) (us : Int32) (yr : Int32) (ca : Int32) (ic : Int32) (su : Int32) (jb : Int32)  (hT : gH (dC, dI) kA (SHm q (wP wZ wN wH wB wC wL wK wU wV) PI im PM PT lS lB lE lN) G H0) (hr_o0 : G o0 = some 0) (hm_jb : el H0 o0 (dI 15 74) = some (.int jb)) (hq0 : 0 ≤ yr.toInt ∧ yr.toInt ≤ 200) (hq1 : 7 ≤ jb.toInt ∧ jb.toInt ≤ 7) (hgz : ∀ i, 0 ≤ wZ i) (hgn : ∀ i, 6500000 ≤ wN i ∧ wN i ≤ 20200000) (hgh : 0 ≤ wH ∧ wH ≤ 40000) (hgb : 0 ≤ wB ∧ wB ≤ 3850000) (hgc : 0 ≤ wC ∧ wC ≤ 30) (hgi : 0 ≤ im ∧ im ≤ 1) (hgu : ∀ a t, G a = some (t + 1) → a = q t) : Met l yX12_orders w_s_orders7 ({ frames := 0, cells := 0, slots := 0, locals := 0 }) (va_Pc [.ref o0, .int 7, .int us, .int yr, .int ca, .int ic, .int su] (fun U => U.heap = H0 ∧ va_K (dC, dI) vwCl (tyl kA) U ∧ EVS adK adV (gA G H0.size) U U.heap)) (va_Qv (fun (u : Unit) => True) (fun (_ : Unit) (t : State) => gH (dC, dI) kA (SHm q (wP wZ wN wH wB wC wL wK wU wV) PI im PM PT lS lB lE lN) G t.heap ∧ gF (dC, dI) SKm G ([(0, 77), (77, 0)] : List (Nat × Nat)) H0 t.heap) (gA G H0.size)) 0 0 (gA G H0.size) := by
  refine Met.ofW (cc := cX12_orders) (maxL := 10) (ret := none) (by decide) rfl ?_
  intro p e s m args below meth c s₁ B hml hv
  obtain ⟨rfl, hH0, hK, hE⟩ := hv
  have hx := B.exec
  have hb := B.bytes
  have hr := B.returns
  have hts := atoms_spec (ws := w_s_orders7) B.pre
  have hown : s.vm.findClass RX12 = some m.cls := findClass_of_methodNamed B.named
  have hlocks := B.notSynchronized
  subst hH0
  generalize hAe : gA G s.heap.size = A at hE ⊢
  have hA : ∀ q : Nat, s.heap.size ≤ q → A q := fun q h => by rw [← hAe]; exact Or.inr h
  have hG := gA_of hAe
  have hS : va_S A s.heap s.heap [] := va_S.rf
  have hF : gF (dC, dI) SKm G ([(0, 77), (77, 0)] : List (Nat × Nat)) s.heap s.heap := gF.rf
  have hl := lv_entry ([.ref o0, .int 7, .int us, .int yr, .int ca, .int ic, .int su]) (n := 10) (Nat.le_of_ble_eq_true rfl)
  rw [lg_entry_eq]
  generalize (lg_sl ([.ref o0, .int 7, .int us, .int yr, .int ca, .int ic, .int su]) ++ List.replicate (10 - (lg_sl ([.ref o0, .int 7, .int us, .int yr, .int ca, .int ic, .int su])).length) Slot.unset).toArray = ls at hl ⊢
  have hl : lv_has ls 10 [(0, .ref o0), (1, .int 7), (2, .int us), (3, .int yr), (4, .int ca), (5, .int ic), (6, .int su)] := hl
  refine lv_iload_n hx hb dX12_orders_0 rfl (lv_at hl 1 rfl) ?_
  refine lv_aload_n hx hb dX12_orders_1 rfl (lv_at hl 0 rfl) ?_
  refine tw_getM (v := .int jb) hx hb hts bF_X12 hown hK hT hr_o0 shm_0 rfl 74 (by decide) (ht_at hts 0 rfl) (fun _ h9 => h9) hm_jb dX12_orders_2 ?_
  refine lv_icmp_ne (tgt := 61) hx hb dX12_orders_5 (by decide) (fun c1 => (by exfalso; have q9 : 7 ≠ jb.toInt := ti_ne c1 (by decide) rfl; omega)) (fun c1 => ?_)
  have t2 : 7 = jb.toInt := ti_eq c1 (by decide) rfl
  refine lv_aload_n hx hb dX12_orders_8 rfl (lv_at hl 0 rfl) ?_
  refine tw_get hx hb hts bF_X12 hown hK hT hr_o0 shm_0 rfl 77 (by decide) (ht_at hts 1 rfl) (fun _ h9 => h9) dX12_orders_9 (fun v9 m3 h9 => ?_)
  obtain ⟨x4, rfl, gx4, kx4⟩ := h9 _ rfl
  refine lv_if_lt (tgt := 25) hx hb dX12_orders_12 (by decide) (fun c5 => ?_) (fun c5 => ?_)
  · have t6 : x4.toInt < 0 := ti_lt c5 rfl (by decide)
    refine lv_aload_n hx hb dX12_orders_25 rfl (lv_at hl 0 rfl) ?_
    refine lv_iload hx hb dX12_orders_26 (lv_at hl 6 rfl) ?_
    refine tw_put (v := .int su) (ty := .int) hx hb hts bF_X12 tyX12 tyX12_ok nmX12 hown hK hT hG hS hr_o0 shm_0 rfl 77 (by decide) (ht_at hts 1 rfl) (fun _ h9 => h9) rfl (by decide +kernel) rfl rfl (gl_at rfl (gi_all _)) dX12_orders_28 (fun H locs hT oq m7 oj hS => ?_)
    have hF := hF.put hr_o0 skm_0 oq oj (by decide)
    have m8 := (oj 74 (by decide) (by decide)).trans hm_jb
    refine lv_iconst (v := 0) hx hb dX12_orders_31 (by decide) ?_
    refine lv_istore (lv' := [(7, .int 0), (0, .ref o0), (1, .int 7), (2, .int us), (3, .int yr), (4, .int ca), (5, .int ic), (6, .int su)]) hx hb dX12_orders_32 hl (by decide) rfl (fun ls hl => ?_)
    have key24 : ∀ (n24 i9 : Nat), i9 + n24 = 7 → 0 ≤ i9 → ∀ (H : Heap) (locs : List Loc), gH (dC, dI) kA (SHm q (wP wZ wN wH wB wC wL wK wU wV) PI im PM PT lS lB lE lN) G H → gF (dC, dI) SKm G ([(0, 77), (77, 0)] : List (Nat × Nat)) s.heap H → va_S A s.heap H locs → el H o0 (dI 15 74) = some (.int jb) → el H o0 (dI 15 77) = some (.int su) → ∀ ls : Array Slot, lv_has ls 10 [(7, .int (nI i9)), (0, .ref o0), (1, .int 7), (2, .int us), (3, .int yr), (4, .int ca), (5, .int ic), (6, .int su)] → W p l e (headSpec w_s_orders7 ({ frames := 0, cells := 0, slots := 0, locals := 0 })).room s m #[.ref o0, .int 7, .int us, .int yr, .int ca, .int ic, .int su] below meth c H locs 0 0 (MQ below (va_Qv (fun (u : Unit) => True) (fun (_ : Unit) (t : State) => gH (dC, dI) kA (SHm q (wP wZ wN wH wB wC wL wK wU wV) PI im PM PT lS lB lE lN) G t.heap ∧ gF (dC, dI) SKm G ([(0, 77), (77, 0)] : List (Nat × Nat)) s.heap t.heap) A) #[.ref o0, .int 7, .int us, .int yr, .int ca, .int ic, .int su] s 0 0 A) (F0 m 34 ls []) := by
      intro n24
      induction n24 with
      | zero =>
        intro i9 hn24 hlo25  H locs hT hF hS m10 m11 ls hl
        obtain rfl : 7 = i9 := by omega
        refine lv_iload hx hb dX12_orders_34 (lv_at hl 0 rfl) ?_
        refine lv_iload_n hx hb dX12_orders_36 rfl (lv_at hl 2 rfl) ?_
        refine lv_icmp_ge (tgt := 60) hx hb dX12_orders_37 (by decide) (fun c26 => ?_) (fun c26 => (by exfalso; have q9 : ((7 : Nat) : Int) < 7 := ti_nle c26 (by decide) (nI_toInt (by omega)); omega))
        have t27 : 7 ≤ ((7 : Nat) : Int) := ti_le c26 (by decide) (nI_toInt (by omega))
        exact W.vret hx hb hr (fun t ht hW => ⟨⟨(), rfl, (by exact trivial), by (try dsimp only); rw [ht]; exact ⟨hT, hF⟩⟩, hS.F ht⟩) hS.2.2 dX12_orders_60
      | succ n24 ih24 =>
        intro i9 hn24 hlo25  H locs hT hF hS m10 m11 ls hl
        have hlt27 : i9 < 7 := by omega
        refine lv_iload hx hb dX12_orders_34 (lv_at hl 0 rfl) ?_
        refine lv_iload_n hx hb dX12_orders_36 rfl (lv_at hl 2 rfl) ?_
        refine lv_icmp_ge (tgt := 60) hx hb dX12_orders_37 (by decide) (fun c28 => (by exfalso; have q9 : 7 ≤ ((i9 : Nat) : Int) := ti_le c28 (by decide) (nI_toInt (by omega)); omega)) (fun c28 => ?_)
        have t29 : ((i9 : Nat) : Int) < 7 := ti_nle c28 (by decide) (nI_toInt (by omega))
        refine lv_aload_n hx hb dX12_orders_40 rfl (lv_at hl 1 rfl) ?_
        refine tw_get hx hb hts bF_X12 hown hK hT hr_o0 shm_0 rfl 76 (by decide) (ht_at hts 2 rfl) (fun _ h9 => h9) dX12_orders_41 (fun v9 m30 h9 => ?_)
        obtain ⟨rfl, hg31⟩ := h9 _ rfl
        refine lv_iload hx hb dX12_orders_44 (lv_at hl 0 rfl) ?_
        refine lv_aload_n hx hb dX12_orders_46 rfl (lv_at hl 1 rfl) ?_
        refine tw_get hx hb hts bF_X12 hown hK hT hr_o0 shm_0 rfl 75 (by decide) (ht_at hts 3 rfl) (fun _ h9 => h9) dX12_orders_47 (fun v9 m32 h9 => ?_)
        obtain ⟨rfl, hg33⟩ := h9 _ rfl
        refine lv_iload hx hb dX12_orders_50 (lv_at hl 0 rfl) ?_
        refine tw_iald (i := (nI i9)) hx hb hK hT hg33 shm_76 rfl (vp_in_nI (by omega) (by decide)) dX12_orders_52 (fun v9 m34 h9 => ?_)
        obtain ⟨x35, rfl, gx35, kx35⟩ := h9
        refine tw_iast (i := (nI i9)) (x := x35) hx hb hK hT hG hS hg31 shm_77 rfl (vp_in_nI (by omega) (by decide)) (gi_all _) dX12_orders_53 (fun H locs hT oq m36 oi hS => ?_)
        have hF := hF.ast hg31 skm_77 oq (by decide)
        have m37 := (el_kept (oq _ (gne hr_o0 hg31 (by decide)))).trans m10
        have m38 := (el_kept (oq _ (gne hr_o0 hg31 (by decide)))).trans m11
        refine lv_iinc (v := nI (i9 + 1)) (lv' := [(7, .int (nI (i9 + 1))), (0, .ref o0), (1, .int 7), (2, .int us), (3, .int yr), (4, .int ca), (5, .int ic), (6, .int su)]) hx hb dX12_orders_54 hl (k := 0) rfl (nI_add i9 1) (by decide) rfl (fun ls hl => ?_)
        refine lv_goto (tgt := 34) hx hb dX12_orders_57 (by decide) ?_
        exact ih24 (i9 + 1) (by omega) (by omega) _ _ hT hF hS m37 m38 ls (lv_sub hl [0, 1, 2, 3, 4, 5, 6, 7] rfl)
    exact key24 (7 - 0) 0 (by omega) (Nat.le_refl _) _ _ hT hF hS m8 m7 ls (lv_sub hl [0, 1, 2, 3, 4, 5, 6, 7] rfl)
  · have t40 : 0 ≤ x4.toInt := ti_nlt c5 rfl (by decide)
    refine lv_iload hx hb dX12_orders_15 (lv_at hl 6 rfl) ?_
    refine lv_aload_n hx hb dX12_orders_17 rfl (lv_at hl 0 rfl) ?_
    refine tw_getM (v := .int x4) hx hb hts bF_X12 hown hK hT hr_o0 shm_0 rfl 77 (by decide) (ht_at hts 1 rfl) (fun _ h9 => h9) m3 dX12_orders_18 ?_
    refine lv_icmp_lt (tgt := 25) hx hb dX12_orders_21 (by decide) (fun c41 => ?_) (fun c41 => ?_)
    · have t42 : su.toInt < x4.toInt := ti_lt c41 rfl rfl
      refine lv_aload_n hx hb dX12_orders_25 rfl (lv_at hl 0 rfl) ?_
      refine lv_iload hx hb dX12_orders_26 (lv_at hl 6 rfl) ?_
      refine tw_put (v := .int su) (ty := .int) hx hb hts bF_X12 tyX12 tyX12_ok nmX12 hown hK hT hG hS hr_o0 shm_0 rfl 77 (by decide) (ht_at hts 1 rfl) (fun _ h9 => h9) rfl (by decide +kernel) rfl rfl (gl_at rfl (gi_all _)) dX12_orders_28 (fun H locs hT oq m43 oj hS => ?_)
      have hF := hF.put hr_o0 skm_0 oq oj (by decide)
      have m44 := (oj 74 (by decide) (by decide)).trans hm_jb
      refine lv_iconst (v := 0) hx hb dX12_orders_31 (by decide) ?_
      refine lv_istore (lv' := [(7, .int 0), (0, .ref o0), (1, .int 7), (2, .int us), (3, .int yr), (4, .int ca), (5, .int ic), (6, .int su)]) hx hb dX12_orders_32 hl (by decide) rfl (fun ls hl => ?_)
      have key60 : ∀ (n60 i45 : Nat), i45 + n60 = 7 → 0 ≤ i45 → ∀ (H : Heap) (locs : List Loc), gH (dC, dI) kA (SHm q (wP wZ wN wH wB wC wL wK wU wV) PI im PM PT lS lB lE lN) G H → gF (dC, dI) SKm G ([(0, 77), (77, 0)] : List (Nat × Nat)) s.heap H → va_S A s.heap H locs → el H o0 (dI 15 74) = some (.int jb) → el H o0 (dI 15 77) = some (.int su) → ∀ ls : Array Slot, lv_has ls 10 [(7, .int (nI i45)), (0, .ref o0), (1, .int 7), (2, .int us), (3, .int yr), (4, .int ca), (5, .int ic), (6, .int su)] → W p l e (headSpec w_s_orders7 ({ frames := 0, cells := 0, slots := 0, locals := 0 })).room s m #[.ref o0, .int 7, .int us, .int yr, .int ca, .int ic, .int su] below meth c H locs 0 0 (MQ below (va_Qv (fun (u : Unit) => True) (fun (_ : Unit) (t : State) => gH (dC, dI) kA (SHm q (wP wZ wN wH wB wC wL wK wU wV) PI im PM PT lS lB lE lN) G t.heap ∧ gF (dC, dI) SKm G ([(0, 77), (77, 0)] : List (Nat × Nat)) s.heap t.heap) A) #[.ref o0, .int 7, .int us, .int yr, .int ca, .int ic, .int su] s 0 0 A) (F0 m 34 ls []) := by
        intro n60
        induction n60 with
        | zero =>
          intro i45 hn60 hlo61  H locs hT hF hS m46 m47 ls hl
          obtain rfl : 7 = i45 := by omega
          refine lv_iload hx hb dX12_orders_34 (lv_at hl 0 rfl) ?_
          refine lv_iload_n hx hb dX12_orders_36 rfl (lv_at hl 2 rfl) ?_
          refine lv_icmp_ge (tgt := 60) hx hb dX12_orders_37 (by decide) (fun c62 => ?_) (fun c62 => (by exfalso; have q9 : ((7 : Nat) : Int) < 7 := ti_nle c62 (by decide) (nI_toInt (by omega)); omega))
          have t63 : 7 ≤ ((7 : Nat) : Int) := ti_le c62 (by decide) (nI_toInt (by omega))
          exact W.vret hx hb hr (fun t ht hW => ⟨⟨(), rfl, (by exact trivial), by (try dsimp only); rw [ht]; exact ⟨hT, hF⟩⟩, hS.F ht⟩) hS.2.2 dX12_orders_60
        | succ n60 ih60 =>
          intro i45 hn60 hlo61  H locs hT hF hS m46 m47 ls hl
          have hlt63 : i45 < 7 := by omega
          refine lv_iload hx hb dX12_orders_34 (lv_at hl 0 rfl) ?_
          refine lv_iload_n hx hb dX12_orders_36 rfl (lv_at hl 2 rfl) ?_
          refine lv_icmp_ge (tgt := 60) hx hb dX12_orders_37 (by decide) (fun c64 => (by exfalso; have q9 : 7 ≤ ((i45 : Nat) : Int) := ti_le c64 (by decide) (nI_toInt (by omega)); omega)) (fun c64 => ?_)
          have t65 : ((i45 : Nat) : Int) < 7 := ti_nle c64 (by decide) (nI_toInt (by omega))
          refine lv_aload_n hx hb dX12_orders_40 rfl (lv_at hl 1 rfl) ?_
          refine tw_get hx hb hts bF_X12 hown hK hT hr_o0 shm_0 rfl 76 (by decide) (ht_at hts 2 rfl) (fun _ h9 => h9) dX12_orders_41 (fun v9 m66 h9 => ?_)
          obtain ⟨rfl, hg67⟩ := h9 _ rfl
          refine lv_iload hx hb dX12_orders_44 (lv_at hl 0 rfl) ?_
          refine lv_aload_n hx hb dX12_orders_46 rfl (lv_at hl 1 rfl) ?_
          refine tw_get hx hb hts bF_X12 hown hK hT hr_o0 shm_0 rfl 75 (by decide) (ht_at hts 3 rfl) (fun _ h9 => h9) dX12_orders_47 (fun v9 m68 h9 => ?_)
          obtain ⟨rfl, hg69⟩ := h9 _ rfl
          refine lv_iload hx hb dX12_orders_50 (lv_at hl 0 rfl) ?_
          refine tw_iald (i := (nI i45)) hx hb hK hT hg69 shm_76 rfl (vp_in_nI (by omega) (by decide)) dX12_orders_52 (fun v9 m70 h9 => ?_)
          obtain ⟨x71, rfl, gx71, kx71⟩ := h9
          refine tw_iast (i := (nI i45)) (x := x71) hx hb hK hT hG hS hg67 shm_77 rfl (vp_in_nI (by omega) (by decide)) (gi_all _) dX12_orders_53 (fun H locs hT oq m72 oi hS => ?_)
          have hF := hF.ast hg67 skm_77 oq (by decide)
          have m73 := (el_kept (oq _ (gne hr_o0 hg67 (by decide)))).trans m46
          have m74 := (el_kept (oq _ (gne hr_o0 hg67 (by decide)))).trans m47
          refine lv_iinc (v := nI (i45 + 1)) (lv' := [(7, .int (nI (i45 + 1))), (0, .ref o0), (1, .int 7), (2, .int us), (3, .int yr), (4, .int ca), (5, .int ic), (6, .int su)]) hx hb dX12_orders_54 hl (k := 0) rfl (nI_add i45 1) (by decide) rfl (fun ls hl => ?_)
          refine lv_goto (tgt := 34) hx hb dX12_orders_57 (by decide) ?_
          exact ih60 (i45 + 1) (by omega) (by omega) _ _ hT hF hS m73 m74 ls (lv_sub hl [0, 1, 2, 3, 4, 5, 6, 7] rfl)
      exact key60 (7 - 0) 0 (by omega) (Nat.le_refl _) _ _ hT hF hS m44 m43 ls (lv_sub hl [0, 1, 2, 3, 4, 5, 6, 7] rfl)
    · have t76 : x4.toInt ≤ su.toInt := ti_nlt c41 rfl rfl
      exact W.vret hx hb hr (fun t ht hW => ⟨⟨(), rfl, (by exact trivial), by (try dsimp only); rw [ht]; exact ⟨hT, hF⟩⟩, hS.F ht⟩) hS.2.2 dX12_orders_24
