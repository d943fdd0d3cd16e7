def w_s_holds : List Cond := .code yX12_holds cX12_holds 9 (some .boolean) :: (HAppend.hAppend (α := List Cond) (β := List Cond) (γ := List Cond) [.fieldLink RX12 60 "SeaLandModel" "begins" "[I", .fieldLink RX12 63 "SeaLandModel" "ends" "[I", .fieldLink RX12 66 "SeaLandModel" "step" "[I", .fieldLink RX12 72 "SeaLandModel" "value" "[J", .methodLink RX12 471 Lib.MathLoose.max_long.x, .static Lib.MathLoose.max_long.x, .initialized "java/lang/Math", .code Lib.MathLoose.max_long.x Lib.MathLoose.max_long.code 4 (some .long), .fieldLink RX12 69 "SeaLandModel" "than" "[I", .fieldLink RX12 76 "SeaLandModel" "facts" "[J"] bs)
set_option maxHeartbeats 4000000 in
set_option maxRecDepth 100000 in
theorem s_holds (l : Launch) (dC : Nat → ClassId) (dI : Nat → Nat → Nat) (kA : Nat → ClassId) (adK adV : Nat → Nat) (G : gT) (H0 : Heap) (q : Nat → Nat) (wZ wN : Nat → Int) (wH wB wC : Int) (wL wK : Nat → Prop) (wU wV : Nat → Nat) (PI : Nat → Int → Prop) (im : Int) (PM PT : Nat → Int → Prop) (lS lB lE : Nat → Nat → Int → Prop) (lN : Nat → Int) (o0 : Nat) (kk : Int32)  (hT : gH (dC, dI) kA (SHm q (wP wZ wN wH wB wC wL wK wU wV) PI im PM PT lS lB lE lN) G H0) (hr_o0 : G o0 = some 0) (hq0 : 0 ≤ kk.toInt ∧ kk.toInt ≤ 19) (hlaw : lawsOK lS lB lE lN) (hkl : kk.toInt < lN 0) (hgz : ∀ i, 0 ≤ wZ i) (hgn : ∀ i, 6500000 ≤ wN i ∧ wN i ≤ 20200000) (hgh : 0 ≤ wH ∧ wH ≤ 40000) (hgb : 0 ≤ wB ∧ wB ≤ 3850000) (hgc : 0 ≤ wC ∧ wC ≤ 30) (hgi : 0 ≤ im ∧ im ≤ 1) (hgu : ∀ a t, G a = some (t + 1) → a = q t) : Met l yX12_holds w_s_holds ({ frames := 1, cells := 0, slots := 0, locals := 40 }) (va_Pc [.ref o0, .int kk] (fun U => U.heap = H0 ∧ va_K (dC, dI) vwCl (tyl kA) U ∧ EVS adK adV (gA G H0.size) U U.heap)) (va_Qi (fun (r : Int32) (u : Unit) => (0 ≤ r.toInt ∧ r.toInt ≤ 1)) (fun (_ : Unit) (t : State) => gH (dC, dI) kA (SHm q (wP wZ wN wH wB wC wL wK wU wV) PI im PM PT lS lB lE lN) G t.heap ∧ gF (dC, dI) SKm G ([(30, 0)] : List (Nat × Nat)) H0 t.heap) (gA G H0.size)) 0 0 (gA G H0.size) := by
  refine Met.ofW (cc := cX12_holds) (maxL := 9) (ret := (some .boolean)) (by decide) rfl ?_
  intro p e s m args below meth c s₁ B hml hv
  obtain ⟨rfl, hH0, hK, hE⟩ := hv
  have hx := B.exec
  have hb := B.bytes
  have hr := B.returns
  have hts := atoms_spec (ws := w_s_holds) B.pre
  have hown : s.vm.findClass RX12 = some m.cls := findClass_of_methodNamed B.named
  have hlocks := B.notSynchronized
  subst hH0
  generalize hAe : gA G s.heap.size = A at hE ⊢
  have hA : ∀ q : Nat, s.heap.size ≤ q → A q := fun q h => by rw [← hAe]; exact Or.inr h
  have hG := gA_of hAe
  have hS : va_S A s.heap s.heap [] := va_S.rf
  have hF : gF (dC, dI) SKm G ([(30, 0)] : List (Nat × Nat)) s.heap s.heap := gF.rf
  have hl := lv_entry ([.ref o0, .int kk]) (n := 9) (Nat.le_of_ble_eq_true rfl)
  rw [lg_entry_eq]
  generalize (lg_sl ([.ref o0, .int kk]) ++ List.replicate (9 - (lg_sl ([.ref o0, .int kk])).length) Slot.unset).toArray = ls at hl ⊢
  have hl : lv_has ls 9 [(0, .ref o0), (1, .int kk)] := hl
  obtain ⟨h0_, bgf, enf, dpf, q1_, q2_, q3_, q4_⟩ := hlaw 0 (by decide)
  have hkk_ : ((kk.toNatClampNeg : Nat) : Int) = kk.toInt := tn_of rfl (by omega)
  have hkn_ : kk.toNatClampNeg < (lN 0).toNat := by omega
  refine lv_iconst (v := 0) hx hb dX12_holds_0 (by decide) ?_
  refine lv_istore_n (lv' := [(2, .int 0), (0, .ref o0), (1, .int kk)]) hx hb dX12_holds_1 rfl hl (by decide) rfl (fun ls hl => ?_)
  refine lv_aload_n hx hb dX12_holds_2 rfl (lv_at hl 1 rfl) ?_
  refine tw_get hx hb hts bF_X12 hown hK hT hr_o0 shm_0 rfl 24 (by decide) (ht_at hts 0 rfl) (fun _ h9 => h9) dX12_holds_3 (fun v9 m1 h9 => ?_)
  obtain ⟨rfl, hg2⟩ := h9 _ rfl
  refine lv_iload_n hx hb dX12_holds_6 rfl (lv_at hl 2 rfl) ?_
  refine tw_iald (i := kk) hx hb hK hT hg2 shm_25 rfl (vin_t (a := kk.toInt) rfl (by omega) (by omega)) dX12_holds_7 (fun v9 m3 h9 => ?_)
  obtain ⟨x4, rfl, gx4, kx4⟩ := (gb_at h9)
  have hq_ := (gq_at hT hg2 shm_25 (by have q9 := tn_of (show kk.toInt = kk.toInt from rfl) (by omega); omega) m3).2
  rw [show kk.toNatClampNeg / 20 = 0 by omega, show kk.toNatClampNeg % 20 = kk.toNatClampNeg by omega] at hq_
  have hbg_ := q2_ _ _ hkn_ hq_
  refine lv_istore_n (lv' := [(3, .int x4), (2, .int 0), (0, .ref o0), (1, .int kk)]) hx hb dX12_holds_8 rfl hl (by decide) rfl (fun ls hl => ?_)
  obtain ⟨k5, hk5, lk5, ek5⟩ := ti_nat x4 (by omega)
  subst ek5
  have jn407 : ∀ (z399 : Int32), ∀ (z401 : Int32), ∀ (z404 : Int32), ((0 ≤ z399.toInt ∧ z399.toInt ≤ 400) ∧ (0 ≤ z401.toInt ∧ z401.toInt ≤ 400) ∧ (0 ≤ z404.toInt ∧ z404.toInt ≤ 400)) → ∀ (H : Heap) (locs : List Loc), gH (dC, dI) kA (SHm q (wP wZ wN wH wB wC wL wK wU wV) PI im PM PT lS lB lE lN) G H → gF (dC, dI) SKm G ([(30, 0)] : List (Nat × Nat)) s.heap H → va_S A s.heap H locs → el H (q 24) kk.toNatClampNeg = some (.int (nI k5)) → el H (q 25) kk.toNatClampNeg = some (.int z404) → ∀ ls : Array Slot, lv_has ls 9 [(3, .int z399), (2, .int z401), (0, .ref o0), (1, .int kk)] → W p l e (headSpec w_s_holds ({ frames := 1, cells := 0, slots := 0, locals := 40 })).room s m #[.ref o0, .int kk] below meth c H locs 0 0 (MQ below (va_Qi (fun (r : Int32) (u : Unit) => (0 ≤ r.toInt ∧ r.toInt ≤ 1)) (fun (_ : Unit) (t : State) => gH (dC, dI) kA (SHm q (wP wZ wN wH wB wC wL wK wU wV) PI im PM PT lS lB lE lN) G t.heap ∧ gF (dC, dI) SKm G ([(30, 0)] : List (Nat × Nat)) s.heap t.heap) A) #[.ref o0, .int kk] s 0 0 A) (F0 m 225 ls []) := by
    intro z399 z401 z404 ⟨h400, h402, h405⟩ H locs hT hF hS m403 m406 ls hl
    refine lv_iload_n hx hb dX12_holds_225 rfl (lv_at hl 1 rfl) ?_
    refine lv_if_eq (tgt := 240) hx hb dX12_holds_226 (by decide) (fun c408 => ?_) (fun c408 => ?_)
    · have t409 : z401.toInt = 0 := ti_eq c408 rfl (by decide)
      refine lv_iconst (v := 1) hx hb dX12_holds_240 (by decide) ?_
      refine lv_goto (tgt := 245) hx hb dX12_holds_241 (by decide) ?_
      exact W.zret (v := 1) hx hb hr (by decide) (fun t ht hW => ⟨⟨1, (), rfl, (by exact (rg_t (a := 1) (by decide) (by first | decide | omega) (by first | decide | omega))), by (try dsimp only); rw [ht]; exact ⟨hT, hF⟩⟩, hS.F ht⟩) hS.2.2 dX12_holds_245
    · have t410 : z401.toInt ≠ 0 := ti_ne c408 rfl (by decide)
      refine lv_aload_n hx hb dX12_holds_229 rfl (lv_at hl 2 rfl) ?_
      refine tw_get hx hb hts bF_X12 hown hK hT hr_o0 shm_0 rfl 29 (by decide) (ht_at hts 3 rfl) (fun _ h9 => h9) dX12_holds_230 (fun v9 m411 h9 => ?_)
      obtain ⟨rfl, hg412⟩ := h9 _ rfl
      refine lv_iconst (v := 0) hx hb dX12_holds_233 (by decide) ?_
      refine tw_lald (i := 0) hx hb hK hT hg412 shm_30 rfl (vin_t (a := 0) (by decide) (by first | decide | omega) (by first | decide | omega)) dX12_holds_234 (fun v9 m413 h9 => ?_)
      obtain ⟨y414, rfl⟩ := h9
      refine lv_lconst (v := 1) hx hb dX12_holds_235 (by decide) ?_
      refine W.lcmp hx hb dX12_holds_236 ?_
      refine lv_topi (fun x415 _ => ?_)
      refine lv_if_ne (tgt := 244) hx hb dX12_holds_237 (by decide) (fun c416 => ?_) (fun c416 => ?_)
      · have t417 : x415.toInt ≠ 0 := ti_ne c416 rfl (by decide)
        refine lv_iconst (v := 0) hx hb dX12_holds_244 (by decide) ?_
        exact W.zret (v := 0) hx hb hr (by decide) (fun t ht hW => ⟨⟨0, (), rfl, (by exact (rg_t (a := 0) (by decide) (by first | decide | omega) (by first | decide | omega))), by (try dsimp only); rw [ht]; exact ⟨hT, hF⟩⟩, hS.F ht⟩) hS.2.2 dX12_holds_245
      · have t418 : x415.toInt = 0 := ti_eq c416 rfl (by decide)
        refine lv_iconst (v := 1) hx hb dX12_holds_240 (by decide) ?_
        refine lv_goto (tgt := 245) hx hb dX12_holds_241 (by decide) ?_
        exact W.zret (v := 1) hx hb hr (by decide) (fun t ht hW => ⟨⟨1, (), rfl, (by exact (rg_t (a := 1) (by decide) (by first | decide | omega) (by first | decide | omega))), by (try dsimp only); rw [ht]; exact ⟨hT, hF⟩⟩, hS.F ht⟩) hS.2.2 dX12_holds_245
  have key419 : ∀ (n419 i6 : Nat), i6 + n419 = 400 → k5 ≤ i6 → ∀ (z7 : Int32), ((0 ≤ z7.toInt ∧ z7.toInt ≤ 400) ∧ (z7.toInt = dpf kk.toNatClampNeg i6)) → ∀ (H : Heap) (locs : List Loc), gH (dC, dI) kA (SHm q (wP wZ wN wH wB wC wL wK wU wV) PI im PM PT lS lB lE lN) G H → gF (dC, dI) SKm G ([(30, 0)] : List (Nat × Nat)) s.heap H → va_S A s.heap H locs → el H (q 24) kk.toNatClampNeg = some (.int (nI k5)) → ∀ ls : Array Slot, lv_has ls 9 [(3, .int (nI i6)), (2, .int z7), (0, .ref o0), (1, .int kk)] → W p l e (headSpec w_s_holds ({ frames := 1, cells := 0, slots := 0, locals := 40 })).room s m #[.ref o0, .int kk] below meth c H locs 0 0 (MQ below (va_Qi (fun (r : Int32) (u : Unit) => (0 ≤ r.toInt ∧ r.toInt ≤ 1)) (fun (_ : Unit) (t : State) => gH (dC, dI) kA (SHm q (wP wZ wN wH wB wC wL wK wU wV) PI im PM PT lS lB lE lN) G t.heap ∧ gF (dC, dI) SKm G ([(30, 0)] : List (Nat × Nat)) s.heap t.heap) A) #[.ref o0, .int kk] s 0 0 A) (F0 m 9 ls []) := by
    intro n419
    induction n419 with
    | zero =>
      intro i6 hn419 hlo420 z7 ⟨h8, hj10⟩ H locs hT hF hS m9 ls hl
      obtain rfl : 400 = i6 := by omega
      refine lv_iload_n hx hb dX12_holds_9 rfl (lv_at hl 0 rfl) ?_
      refine lv_aload_n hx hb dX12_holds_10 rfl (lv_at hl 2 rfl) ?_
      refine tw_get hx hb hts bF_X12 hown hK hT hr_o0 shm_0 rfl 25 (by decide) (ht_at hts 1 rfl) (fun _ h9 => h9) dX12_holds_11 (fun v9 m421 h9 => ?_)
      obtain ⟨rfl, hg422⟩ := h9 _ rfl
      refine lv_iload_n hx hb dX12_holds_14 rfl (lv_at hl 3 rfl) ?_
      refine tw_iald (i := kk) hx hb hK hT hg422 shm_26 rfl (vin_t (a := kk.toInt) rfl (by omega) (by omega)) dX12_holds_15 (fun v9 m423 h9 => ?_)
      obtain ⟨x424, rfl, gx424, kx424⟩ := (gb_at h9)
      have hq_ := (gq_at hT hg422 shm_26 (by have q9 := tn_of (show kk.toInt = kk.toInt from rfl) (by omega); omega) m423).2
      rw [show kk.toNatClampNeg / 20 = 0 by omega, show kk.toNatClampNeg % 20 = kk.toNatClampNeg by omega] at hq_
      have hen_ := q3_ _ _ hkn_ hq_
      refine lv_icmp_ge (tgt := 225) hx hb dX12_holds_16 (by decide) (fun c425 => ?_) (fun c425 => (by exfalso; have q9 : ((400 : Nat) : Int) < x424.toInt := ti_nle c425 rfl (nI_toInt (by omega)); omega))
      have t426 : x424.toInt ≤ ((400 : Nat) : Int) := ti_le c425 rfl (nI_toInt (by omega))
      exact jn407 (nI 400) z7 x424 ⟨(rg_t (a := ((400 : Nat) : Int)) (nI_toInt (by omega)) (by omega) (by omega)), (by have q9 := (show z7.toInt = z7.toInt from rfl); (try have q8 := ti_all z7); omega), (by have q8 := ti_all x424; omega)⟩ _ _ hT hF hS m9 m423 ls (lv_sub hl [0, 1, 2, 3] rfl)
    | succ n419 ih419 =>
      intro i6 hn419 hlo420 z7 ⟨h8, hj10⟩ H locs hT hF hS m9 ls hl
      have hlt426 : i6 < 400 := by omega
      refine lv_iload_n hx hb dX12_holds_9 rfl (lv_at hl 0 rfl) ?_
      refine lv_aload_n hx hb dX12_holds_10 rfl (lv_at hl 2 rfl) ?_
      refine tw_get hx hb hts bF_X12 hown hK hT hr_o0 shm_0 rfl 25 (by decide) (ht_at hts 1 rfl) (fun _ h9 => h9) dX12_holds_11 (fun v9 m427 h9 => ?_)
      obtain ⟨rfl, hg428⟩ := h9 _ rfl
      refine lv_iload_n hx hb dX12_holds_14 rfl (lv_at hl 3 rfl) ?_
      refine tw_iald (i := kk) hx hb hK hT hg428 shm_26 rfl (vin_t (a := kk.toInt) rfl (by omega) (by omega)) dX12_holds_15 (fun v9 m429 h9 => ?_)
      obtain ⟨x430, rfl, gx430, kx430⟩ := (gb_at h9)
      have hq_ := (gq_at hT hg428 shm_26 (by have q9 := tn_of (show kk.toInt = kk.toInt from rfl) (by omega); omega) m429).2
      rw [show kk.toNatClampNeg / 20 = 0 by omega, show kk.toNatClampNeg % 20 = kk.toNatClampNeg by omega] at hq_
      have hen_ := q3_ _ _ hkn_ hq_
      refine lv_icmp_ge (tgt := 225) hx hb dX12_holds_16 (by decide) (fun c431 => ?_) (fun c431 => ?_)
      · have t432 : x430.toInt ≤ ((i6 : Nat) : Int) := ti_le c431 rfl (nI_toInt (by omega))
        exact jn407 (nI i6) z7 x430 ⟨(rg_t (a := ((i6 : Nat) : Int)) (nI_toInt (by omega)) (by omega) (by omega)), (by have q9 := (show z7.toInt = z7.toInt from rfl); (try have q8 := ti_all z7); omega), (by have q8 := ti_all x430; omega)⟩ _ _ hT hF hS m9 m429 ls (lv_sub hl [0, 1, 2, 3] rfl)
      · have t433 : ((i6 : Nat) : Int) < x430.toInt := ti_nle c431 rfl (nI_toInt (by omega))
        refine lv_aload_n hx hb dX12_holds_19 rfl (lv_at hl 2 rfl) ?_
        refine tw_get hx hb hts bF_X12 hown hK hT hr_o0 shm_0 rfl 26 (by decide) (ht_at hts 2 rfl) (fun _ h9 => h9) dX12_holds_20 (fun v9 m434 h9 => ?_)
        obtain ⟨rfl, hg435⟩ := h9 _ rfl
        refine lv_iload_n hx hb dX12_holds_23 rfl (lv_at hl 0 rfl) ?_
        refine tw_iald (i := (nI i6)) hx hb hK hT hg435 shm_27 rfl (vp_in_nI (by omega) (by decide)) dX12_holds_24 (fun v9 m436 h9 => ?_)
        obtain ⟨x437, rfl, gx437, kx437⟩ := (gp_any h9)
        refine lv_istore (lv' := [(4, .int x437), (3, .int (nI i6)), (2, .int z7), (0, .ref o0), (1, .int kk)]) hx hb dX12_holds_25 hl (by decide) rfl (fun ls hl => ?_)
        have hs_ := gq_at hT hg435 shm_27 (by have q9 := tn_of (show (nI i6).toInt = ((i6 : Nat) : Int) from (nI_toInt (by omega))) (by omega); omega) m436
        have hs2_ : lS 0 i6 x437.toInt := by unfold lqS at hs_; rw [show (nI i6).toNatClampNeg = i6 from tn_nI (by omega), show i6 / 400 = 0 by omega, show i6 % 400 = i6 by omega] at hs_; exact hs_
        have hst_ := q1_ i6 _ hs2_ kk.toNatClampNeg hkn_ (by have q9 := (show (nI i6).toInt = ((i6 : Nat) : Int) from (nI_toInt (by omega))); omega) (by have q9 := (show (nI i6).toInt = ((i6 : Nat) : Int) from (nI_toInt (by omega))); omega)
        unfold okS stp at hst_
        have hdb_ := (q4_ _ hkn_).2.2 i6
        have hdc_ := (q4_ _ hkn_).2.2 (i6 + 1)
        refine lv_iload hx hb dX12_holds_27 (lv_at hl 0 rfl) ?_
        refine lv_bipush (v := 100) hx hb dX12_holds_29 (by decide) ?_
        refine lv_icmp_ge (tgt := 53) hx hb dX12_holds_31 (by decide) (fun c438 => ?_) (fun c438 => ?_)
        · have t439 : 100 ≤ x437.toInt := ti_le c438 (by decide) rfl
          refine lv_iload hx hb dX12_holds_53 (lv_at hl 0 rfl) ?_
          refine lv_bipush (v := 100) hx hb dX12_holds_55 (by decide) ?_
          refine lv_icmp_ne (tgt := 79) hx hb dX12_holds_57 (by decide) (fun c440 => ?_) (fun c440 => ?_)
          · have t441 : x437.toInt ≠ 100 := ti_ne c440 rfl (by decide)
            refine lv_iload hx hb dX12_holds_79 (lv_at hl 0 rfl) ?_
            refine lv_bipush (v := 104) hx hb dX12_holds_81 (by decide) ?_
            refine lv_icmp_ne (tgt := 107) hx hb dX12_holds_83 (by decide) (fun c442 => ?_) (fun c442 => ?_)
            · have t443 : x437.toInt ≠ 104 := ti_ne c442 rfl (by decide)
              obtain ⟨x444, ex444⟩ : ∃ y : Int32, y = z7 + (-1) := ⟨_, rfl⟩
              have t445 : x444.toInt = z7.toInt + (-1) := ti_add ex444 rfl (by decide) (by omega) (by omega)
              refine lv_iinc (v := x444) (lv' := [(2, .int x444), (4, .int x437), (3, .int (nI i6)), (0, .ref o0), (1, .int kk)]) hx hb dX12_holds_107 hl (k := 2) rfl (by first | (rw [ex444]; done) | (rw [ex444]; rfl)) (by decide) rfl (fun ls hl => ?_)
              refine lv_aload_n hx hb dX12_holds_110 rfl (lv_at hl 3 rfl) ?_
              refine tw_get hx hb hts bF_X12 hown hK hT hr_o0 shm_0 rfl 29 (by decide) (ht_at hts 3 rfl) (fun _ h9 => h9) dX12_holds_111 (fun v9 m446 h9 => ?_)
              obtain ⟨rfl, hg447⟩ := h9 _ rfl
              refine lv_iload_n hx hb dX12_holds_114 rfl (lv_at hl 0 rfl) ?_
              refine lv_iconst (v := 1) hx hb dX12_holds_115 (by decide) ?_
              refine lv_isub hx hb dX12_holds_116 ?_
              refine lv_topi (fun x448 ex448 => ?_)
              have t449 : x448.toInt = x444.toInt - 1 := ti_sub ex448 rfl (by decide) (by omega) (by omega)
              refine tw_lald (i := x448) hx hb hK hT hg447 shm_30 rfl (vin_t (a := x448.toInt) rfl (by omega) (by omega)) dX12_holds_117 (fun v9 m450 h9 => ?_)
              obtain ⟨y451, rfl⟩ := h9
              refine lv_lstore (lv' := [(5, .long y451), (2, .int x444), (4, .int x437), (3, .int (nI i6)), (0, .ref o0), (1, .int kk)]) hx hb dX12_holds_118 hl (by decide) rfl (fun ls hl => ?_)
              refine lv_aload_n hx hb dX12_holds_120 rfl (lv_at hl 4 rfl) ?_
              refine tw_get hx hb hts bF_X12 hown hK hT hr_o0 shm_0 rfl 29 (by decide) (ht_at hts 3 rfl) (fun _ h9 => h9) dX12_holds_121 (fun v9 m452 h9 => ?_)
              obtain ⟨rfl, hg453⟩ := h9 _ rfl
              refine lv_iload_n hx hb dX12_holds_124 rfl (lv_at hl 1 rfl) ?_
              refine tw_lald (i := x444) hx hb hK hT hg447 shm_30 rfl (vin_t (a := x444.toInt) rfl (by omega) (by omega)) dX12_holds_125 (fun v9 m454 h9 => ?_)
              obtain ⟨y455, rfl⟩ := h9
              refine lv_lstore (lv' := [(7, .long y455), (5, .long y451), (2, .int x444), (4, .int x437), (3, .int (nI i6)), (0, .ref o0), (1, .int kk)]) hx hb dX12_holds_126 hl (by decide) rfl (fun ls hl => ?_)
              refine lv_aload_n hx hb dX12_holds_128 rfl (lv_at hl 5 rfl) ?_
              refine tw_get hx hb hts bF_X12 hown hK hT hr_o0 shm_0 rfl 29 (by decide) (ht_at hts 3 rfl) (fun _ h9 => h9) dX12_holds_129 (fun v9 m456 h9 => ?_)
              obtain ⟨rfl, hg457⟩ := h9 _ rfl
              refine lv_iload_n hx hb dX12_holds_132 rfl (lv_at hl 2 rfl) ?_
              refine lv_iconst (v := 1) hx hb dX12_holds_133 (by decide) ?_
              refine lv_isub hx hb dX12_holds_134 ?_
              refine lv_topi (fun x458 ex458 => ?_)
              have t459 : x458.toInt = x444.toInt - 1 := ti_sub ex458 rfl (by decide) (by omega) (by omega)
              refine lv_iload hx hb dX12_holds_135 (lv_at hl 3 rfl) ?_
              refine lv_bipush (v := 101) hx hb dX12_holds_137 (by decide) ?_
              refine lv_icmp_ne (tgt := 150) hx hb dX12_holds_139 (by decide) (fun c460 => ?_) (fun c460 => ?_)
              · have t461 : x437.toInt ≠ 101 := ti_ne c460 rfl (by decide)
                refine lv_iload hx hb dX12_holds_150 (lv_at hl 3 rfl) ?_
                refine lv_bipush (v := 102) hx hb dX12_holds_152 (by decide) ?_
                refine lv_icmp_ne (tgt := 173) hx hb dX12_holds_154 (by decide) (fun c462 => ?_) (fun c462 => ?_)
                · have t463 : x437.toInt ≠ 102 := ti_ne c462 rfl (by decide)
                  refine lv_iload hx hb dX12_holds_173 (lv_at hl 3 rfl) ?_
                  refine lv_bipush (v := 103) hx hb dX12_holds_175 (by decide) ?_
                  refine lv_icmp_ne (tgt := 196) hx hb dX12_holds_177 (by decide) (fun c464 => ?_) (fun c464 => ?_)
                  · have t465 : x437.toInt ≠ 103 := ti_ne c464 rfl (by decide)
                    refine lv_iload hx hb dX12_holds_196 (lv_at hl 3 rfl) ?_
                    refine lv_bipush (v := 105) hx hb dX12_holds_198 (by decide) ?_
                    refine lv_icmp_ne (tgt := 211) hx hb dX12_holds_200 (by decide) (fun c466 => ?_) (fun c466 => ?_)
                    · have t467 : x437.toInt ≠ 105 := ti_ne c466 rfl (by decide)
                      refine lv_lload hx hb dX12_holds_211 (lv_at hl 1 rfl) ?_
                      refine lv_lload hx hb dX12_holds_213 (lv_at hl 0 rfl) ?_
                      refine va_mmax_long hx hb (hml.trans hl.1.symm) hown (ht_at hts 4 rfl) (ht_at hts 5 rfl) (ht_at hts 6 rfl) (ht_at hts 7 rfl) (Nat.le_of_ble_eq_true rfl) (Nat.le_of_ble_eq_true rfl) (Nat.le_of_ble_eq_true rfl) (Nat.le_of_ble_eq_true rfl) dX12_holds_215 ?_
                      refine lv_topl (fun y468 _ => ?_)
                      refine tw_last (i := x458)  hx hb hK hT hG hS hg447 shm_30 rfl (vin_t (a := x458.toInt) rfl (by omega) (by omega)) ⟨_, rfl⟩ dX12_holds_218 (fun H locs hT oq m469 oi hS => ?_)
                      have hF := hF.ast hg447 skm_30 oq (by decide)
                      have m470 := (el_kept (oq _ (gne hg2 hg447 (by decide)))).trans m9
                      refine lv_iinc (v := nI (i6 + 1)) (lv' := [(3, .int (nI (i6 + 1))), (7, .long y455), (5, .long y451), (2, .int x444), (4, .int x437), (0, .ref o0), (1, .int kk)]) hx hb dX12_holds_219 hl (k := 4) rfl (nI_add i6 1) (by decide) rfl (fun ls hl => ?_)
                      refine lv_goto (tgt := 9) hx hb dX12_holds_222 (by decide) ?_
                      exact ih419 (i6 + 1) (by omega) (by omega) x444 ⟨(by have q9 := (show x444.toInt = x444.toInt from rfl); (try have q8 := ti_all x444); omega), (by have q9 := (show x444.toInt = x444.toInt from rfl); omega)⟩ _ _ hT hF hS m470 ls (lv_sub hl [0, 3, 5, 6] rfl)
                    · have t473 : x437.toInt = 105 := ti_eq c466 rfl (by decide)
                      refine lv_lload hx hb dX12_holds_203 (lv_at hl 1 rfl) ?_
                      refine lv_lload hx hb dX12_holds_205 (lv_at hl 0 rfl) ?_
                      refine lv_lmul hx hb dX12_holds_207 ?_
                      refine lv_topl (fun y474 _ => ?_)
                      refine lv_goto (tgt := 218) hx hb dX12_holds_208 (by decide) ?_
                      refine tw_last (i := x458)  hx hb hK hT hG hS hg447 shm_30 rfl (vin_t (a := x458.toInt) rfl (by omega) (by omega)) ⟨_, rfl⟩ dX12_holds_218 (fun H locs hT oq m475 oi hS => ?_)
                      have hF := hF.ast hg447 skm_30 oq (by decide)
                      have m476 := (el_kept (oq _ (gne hg2 hg447 (by decide)))).trans m9
                      refine lv_iinc (v := nI (i6 + 1)) (lv' := [(3, .int (nI (i6 + 1))), (7, .long y455), (5, .long y451), (2, .int x444), (4, .int x437), (0, .ref o0), (1, .int kk)]) hx hb dX12_holds_219 hl (k := 4) rfl (nI_add i6 1) (by decide) rfl (fun ls hl => ?_)
                      refine lv_goto (tgt := 9) hx hb dX12_holds_222 (by decide) ?_
                      exact ih419 (i6 + 1) (by omega) (by omega) x444 ⟨(by have q9 := (show x444.toInt = x444.toInt from rfl); (try have q8 := ti_all x444); omega), (by have q9 := (show x444.toInt = x444.toInt from rfl); omega)⟩ _ _ hT hF hS m476 ls (lv_sub hl [0, 3, 5, 6] rfl)
                  · have t479 : x437.toInt = 103 := ti_eq c464 rfl (by decide)
                    refine lv_lload hx hb dX12_holds_180 (lv_at hl 1 rfl) ?_
                    refine lv_lload hx hb dX12_holds_182 (lv_at hl 0 rfl) ?_
                    refine W.lcmp hx hb dX12_holds_184 ?_
                    refine lv_topi (fun x480 _ => ?_)
                    refine lv_if_le (tgt := 192) hx hb dX12_holds_185 (by decide) (fun c481 => ?_) (fun c481 => ?_)
                    · have t482 : x480.toInt ≤ 0 := ti_le c481 rfl (by decide)
                      refine lv_lconst (v := 0) hx hb dX12_holds_192 (by decide) ?_
                      refine lv_goto (tgt := 218) hx hb dX12_holds_193 (by decide) ?_
                      refine tw_last (i := x458)  hx hb hK hT hG hS hg447 shm_30 rfl (vin_t (a := x458.toInt) rfl (by omega) (by omega)) ⟨_, rfl⟩ dX12_holds_218 (fun H locs hT oq m483 oi hS => ?_)
                      have hF := hF.ast hg447 skm_30 oq (by decide)
                      have m484 := (el_kept (oq _ (gne hg2 hg447 (by decide)))).trans m9
                      refine lv_iinc (v := nI (i6 + 1)) (lv' := [(3, .int (nI (i6 + 1))), (7, .long y455), (5, .long y451), (2, .int x444), (4, .int x437), (0, .ref o0), (1, .int kk)]) hx hb dX12_holds_219 hl (k := 4) rfl (nI_add i6 1) (by decide) rfl (fun ls hl => ?_)
                      refine lv_goto (tgt := 9) hx hb dX12_holds_222 (by decide) ?_
                      exact ih419 (i6 + 1) (by omega) (by omega) x444 ⟨(by have q9 := (show x444.toInt = x444.toInt from rfl); (try have q8 := ti_all x444); omega), (by have q9 := (show x444.toInt = x444.toInt from rfl); omega)⟩ _ _ hT hF hS m484 ls (lv_sub hl [0, 3, 5, 6] rfl)
                    · have t487 : 0 < x480.toInt := ti_nle c481 rfl (by decide)
                      refine lv_lconst (v := 1) hx hb dX12_holds_188 (by decide) ?_
                      refine lv_goto (tgt := 218) hx hb dX12_holds_189 (by decide) ?_
                      refine tw_last (i := x458)  hx hb hK hT hG hS hg447 shm_30 rfl (vin_t (a := x458.toInt) rfl (by omega) (by omega)) ⟨_, rfl⟩ dX12_holds_218 (fun H locs hT oq m488 oi hS => ?_)
                      have hF := hF.ast hg447 skm_30 oq (by decide)
                      have m489 := (el_kept (oq _ (gne hg2 hg447 (by decide)))).trans m9
                      refine lv_iinc (v := nI (i6 + 1)) (lv' := [(3, .int (nI (i6 + 1))), (7, .long y455), (5, .long y451), (2, .int x444), (4, .int x437), (0, .ref o0), (1, .int kk)]) hx hb dX12_holds_219 hl (k := 4) rfl (nI_add i6 1) (by decide) rfl (fun ls hl => ?_)
                      refine lv_goto (tgt := 9) hx hb dX12_holds_222 (by decide) ?_
                      exact ih419 (i6 + 1) (by omega) (by omega) x444 ⟨(by have q9 := (show x444.toInt = x444.toInt from rfl); (try have q8 := ti_all x444); omega), (by have q9 := (show x444.toInt = x444.toInt from rfl); omega)⟩ _ _ hT hF hS m489 ls (lv_sub hl [0, 3, 5, 6] rfl)
                · have t492 : x437.toInt = 102 := ti_eq c462 rfl (by decide)
                  refine lv_lload hx hb dX12_holds_157 (lv_at hl 1 rfl) ?_
                  refine lv_lload hx hb dX12_holds_159 (lv_at hl 0 rfl) ?_
                  refine W.lcmp hx hb dX12_holds_161 ?_
                  refine lv_topi (fun x493 _ => ?_)
                  refine lv_if_ge (tgt := 169) hx hb dX12_holds_162 (by decide) (fun c494 => ?_) (fun c494 => ?_)
                  · have t495 : 0 ≤ x493.toInt := ti_le c494 (by decide) rfl
                    refine lv_lconst (v := 0) hx hb dX12_holds_169 (by decide) ?_
                    refine lv_goto (tgt := 218) hx hb dX12_holds_170 (by decide) ?_
                    refine tw_last (i := x458)  hx hb hK hT hG hS hg447 shm_30 rfl (vin_t (a := x458.toInt) rfl (by omega) (by omega)) ⟨_, rfl⟩ dX12_holds_218 (fun H locs hT oq m496 oi hS => ?_)
                    have hF := hF.ast hg447 skm_30 oq (by decide)
                    have m497 := (el_kept (oq _ (gne hg2 hg447 (by decide)))).trans m9
                    refine lv_iinc (v := nI (i6 + 1)) (lv' := [(3, .int (nI (i6 + 1))), (7, .long y455), (5, .long y451), (2, .int x444), (4, .int x437), (0, .ref o0), (1, .int kk)]) hx hb dX12_holds_219 hl (k := 4) rfl (nI_add i6 1) (by decide) rfl (fun ls hl => ?_)
                    refine lv_goto (tgt := 9) hx hb dX12_holds_222 (by decide) ?_
                    exact ih419 (i6 + 1) (by omega) (by omega) x444 ⟨(by have q9 := (show x444.toInt = x444.toInt from rfl); (try have q8 := ti_all x444); omega), (by have q9 := (show x444.toInt = x444.toInt from rfl); omega)⟩ _ _ hT hF hS m497 ls (lv_sub hl [0, 3, 5, 6] rfl)
                  · have t500 : x493.toInt < 0 := ti_nle c494 (by decide) rfl
                    refine lv_lconst (v := 1) hx hb dX12_holds_165 (by decide) ?_
                    refine lv_goto (tgt := 218) hx hb dX12_holds_166 (by decide) ?_
                    refine tw_last (i := x458)  hx hb hK hT hG hS hg447 shm_30 rfl (vin_t (a := x458.toInt) rfl (by omega) (by omega)) ⟨_, rfl⟩ dX12_holds_218 (fun H locs hT oq m501 oi hS => ?_)
                    have hF := hF.ast hg447 skm_30 oq (by decide)
                    have m502 := (el_kept (oq _ (gne hg2 hg447 (by decide)))).trans m9
                    refine lv_iinc (v := nI (i6 + 1)) (lv' := [(3, .int (nI (i6 + 1))), (7, .long y455), (5, .long y451), (2, .int x444), (4, .int x437), (0, .ref o0), (1, .int kk)]) hx hb dX12_holds_219 hl (k := 4) rfl (nI_add i6 1) (by decide) rfl (fun ls hl => ?_)
                    refine lv_goto (tgt := 9) hx hb dX12_holds_222 (by decide) ?_
                    exact ih419 (i6 + 1) (by omega) (by omega) x444 ⟨(by have q9 := (show x444.toInt = x444.toInt from rfl); (try have q8 := ti_all x444); omega), (by have q9 := (show x444.toInt = x444.toInt from rfl); omega)⟩ _ _ hT hF hS m502 ls (lv_sub hl [0, 3, 5, 6] rfl)
              · have t505 : x437.toInt = 101 := ti_eq c460 rfl (by decide)
                refine lv_lload hx hb dX12_holds_142 (lv_at hl 1 rfl) ?_
                refine lv_lload hx hb dX12_holds_144 (lv_at hl 0 rfl) ?_
                refine lv_ladd hx hb dX12_holds_146 ?_
                refine lv_topl (fun y506 _ => ?_)
                refine lv_goto (tgt := 218) hx hb dX12_holds_147 (by decide) ?_
                refine tw_last (i := x458)  hx hb hK hT hG hS hg447 shm_30 rfl (vin_t (a := x458.toInt) rfl (by omega) (by omega)) ⟨_, rfl⟩ dX12_holds_218 (fun H locs hT oq m507 oi hS => ?_)
                have hF := hF.ast hg447 skm_30 oq (by decide)
                have m508 := (el_kept (oq _ (gne hg2 hg447 (by decide)))).trans m9
                refine lv_iinc (v := nI (i6 + 1)) (lv' := [(3, .int (nI (i6 + 1))), (7, .long y455), (5, .long y451), (2, .int x444), (4, .int x437), (0, .ref o0), (1, .int kk)]) hx hb dX12_holds_219 hl (k := 4) rfl (nI_add i6 1) (by decide) rfl (fun ls hl => ?_)
                refine lv_goto (tgt := 9) hx hb dX12_holds_222 (by decide) ?_
                exact ih419 (i6 + 1) (by omega) (by omega) x444 ⟨(by have q9 := (show x444.toInt = x444.toInt from rfl); (try have q8 := ti_all x444); omega), (by have q9 := (show x444.toInt = x444.toInt from rfl); omega)⟩ _ _ hT hF hS m508 ls (lv_sub hl [0, 3, 5, 6] rfl)
            · have t511 : x437.toInt = 104 := ti_eq c442 rfl (by decide)
              refine lv_aload_n hx hb dX12_holds_86 rfl (lv_at hl 3 rfl) ?_
              refine tw_get hx hb hts bF_X12 hown hK hT hr_o0 shm_0 rfl 29 (by decide) (ht_at hts 3 rfl) (fun _ h9 => h9) dX12_holds_87 (fun v9 m512 h9 => ?_)
              obtain ⟨rfl, hg513⟩ := h9 _ rfl
              refine lv_iload_n hx hb dX12_holds_90 rfl (lv_at hl 2 rfl) ?_
              refine lv_iconst (v := 1) hx hb dX12_holds_91 (by decide) ?_
              refine lv_isub hx hb dX12_holds_92 ?_
              refine lv_topi (fun x514 ex514 => ?_)
              have t515 : x514.toInt = z7.toInt - 1 := ti_sub ex514 rfl (by decide) (by omega) (by omega)
              refine lv_lconst (v := 1) hx hb dX12_holds_93 (by decide) ?_
              refine lv_aload_n hx hb dX12_holds_94 rfl (lv_at hl 3 rfl) ?_
              refine tw_get hx hb hts bF_X12 hown hK hT hr_o0 shm_0 rfl 29 (by decide) (ht_at hts 3 rfl) (fun _ h9 => h9) dX12_holds_95 (fun v9 m516 h9 => ?_)
              obtain ⟨rfl, hg517⟩ := h9 _ rfl
              refine lv_iload_n hx hb dX12_holds_98 rfl (lv_at hl 2 rfl) ?_
              refine lv_iconst (v := 1) hx hb dX12_holds_99 (by decide) ?_
              refine lv_isub hx hb dX12_holds_100 ?_
              refine lv_topi (fun x518 ex518 => ?_)
              have t519 : x518.toInt = z7.toInt - 1 := ti_sub ex518 rfl (by decide) (by omega) (by omega)
              refine tw_lald (i := x518) hx hb hK hT hg513 shm_30 rfl (vin_t (a := x518.toInt) rfl (by omega) (by omega)) dX12_holds_101 (fun v9 m520 h9 => ?_)
              obtain ⟨y521, rfl⟩ := h9
              refine lv_lsub hx hb dX12_holds_102 ?_
              refine lv_topl (fun y522 _ => ?_)
              refine tw_last (i := x514)  hx hb hK hT hG hS hg513 shm_30 rfl (vin_t (a := x514.toInt) rfl (by omega) (by omega)) ⟨_, rfl⟩ dX12_holds_103 (fun H locs hT oq m523 oi hS => ?_)
              have hF := hF.ast hg513 skm_30 oq (by decide)
              have m524 := (el_kept (oq _ (gne hg2 hg513 (by decide)))).trans m9
              refine lv_goto (tgt := 219) hx hb dX12_holds_104 (by decide) ?_
              refine lv_iinc (v := nI (i6 + 1)) (lv' := [(3, .int (nI (i6 + 1))), (4, .int x437), (2, .int z7), (0, .ref o0), (1, .int kk)]) hx hb dX12_holds_219 hl (k := 1) rfl (nI_add i6 1) (by decide) rfl (fun ls hl => ?_)
              refine lv_goto (tgt := 9) hx hb dX12_holds_222 (by decide) ?_
              exact ih419 (i6 + 1) (by omega) (by omega) z7 ⟨(by have q9 := (show z7.toInt = z7.toInt from rfl); (try have q8 := ti_all z7); omega), (by have q9 := (show z7.toInt = z7.toInt from rfl); omega)⟩ _ _ hT hF hS m524 ls (lv_sub hl [0, 2, 3, 4] rfl)
          · have t527 : x437.toInt = 100 := ti_eq c440 rfl (by decide)
            refine lv_aload_n hx hb dX12_holds_60 rfl (lv_at hl 3 rfl) ?_
            refine tw_get hx hb hts bF_X12 hown hK hT hr_o0 shm_0 rfl 29 (by decide) (ht_at hts 3 rfl) (fun _ h9 => h9) dX12_holds_61 (fun v9 m528 h9 => ?_)
            obtain ⟨rfl, hg529⟩ := h9 _ rfl
            refine lv_iload_n hx hb dX12_holds_64 rfl (lv_at hl 2 rfl) ?_
            obtain ⟨x530, ex530⟩ : ∃ y : Int32, y = z7 + 1 := ⟨_, rfl⟩
            have t531 : x530.toInt = z7.toInt + 1 := ti_add ex530 rfl (by decide) (by omega) (by omega)
            refine lv_iinc (v := x530) (lv' := [(2, .int x530), (4, .int x437), (3, .int (nI i6)), (0, .ref o0), (1, .int kk)]) hx hb dX12_holds_65 hl (k := 2) rfl (by first | (rw [ex530]; done) | (rw [ex530]; rfl)) (by decide) rfl (fun ls hl => ?_)
            refine lv_aload_n hx hb dX12_holds_68 rfl (lv_at hl 3 rfl) ?_
            refine tw_get hx hb hts bF_X12 hown hK hT hr_o0 shm_0 rfl 27 (by decide) (ht_at hts 8 rfl) (fun _ h9 => h9) dX12_holds_69 (fun v9 m532 h9 => ?_)
            obtain ⟨rfl, hg533⟩ := h9 _ rfl
            refine lv_iload_n hx hb dX12_holds_72 rfl (lv_at hl 2 rfl) ?_
            refine tw_iald (i := (nI i6)) hx hb hK hT hg533 shm_28 rfl (vp_in_nI (by omega) (by decide)) dX12_holds_73 (fun v9 m534 h9 => ?_)
            obtain ⟨x535, rfl, gx535, kx535⟩ := h9
            refine lv_i2l (v := x535.toInt64) hx hb dX12_holds_74 rfl ?_
            refine tw_last (i := z7)  hx hb hK hT hG hS hg529 shm_30 rfl (vin_t (a := z7.toInt) rfl (by omega) (by omega)) ⟨_, rfl⟩ dX12_holds_75 (fun H locs hT oq m536 oi hS => ?_)
            have hF := hF.ast hg529 skm_30 oq (by decide)
            have m537 := (el_kept (oq _ (gne hg2 hg529 (by decide)))).trans m9
            refine lv_goto (tgt := 219) hx hb dX12_holds_76 (by decide) ?_
            refine lv_iinc (v := nI (i6 + 1)) (lv' := [(3, .int (nI (i6 + 1))), (2, .int x530), (4, .int x437), (0, .ref o0), (1, .int kk)]) hx hb dX12_holds_219 hl (k := 2) rfl (nI_add i6 1) (by decide) rfl (fun ls hl => ?_)
            refine lv_goto (tgt := 9) hx hb dX12_holds_222 (by decide) ?_
            exact ih419 (i6 + 1) (by omega) (by omega) x530 ⟨(by have q9 := (show x530.toInt = x530.toInt from rfl); (try have q8 := ti_all x530); omega), (by have q9 := (show x530.toInt = x530.toInt from rfl); omega)⟩ _ _ hT hF hS m537 ls (lv_sub hl [0, 1, 3, 4] rfl)
        · have t540 : x437.toInt < 100 := ti_nle c438 (by decide) rfl
          refine lv_aload_n hx hb dX12_holds_34 rfl (lv_at hl 3 rfl) ?_
          refine tw_get hx hb hts bF_X12 hown hK hT hr_o0 shm_0 rfl 29 (by decide) (ht_at hts 3 rfl) (fun _ h9 => h9) dX12_holds_35 (fun v9 m541 h9 => ?_)
          obtain ⟨rfl, hg542⟩ := h9 _ rfl
          refine lv_iload_n hx hb dX12_holds_38 rfl (lv_at hl 2 rfl) ?_
          obtain ⟨x543, ex543⟩ : ∃ y : Int32, y = z7 + 1 := ⟨_, rfl⟩
          have t544 : x543.toInt = z7.toInt + 1 := ti_add ex543 rfl (by decide) (by omega) (by omega)
          refine lv_iinc (v := x543) (lv' := [(2, .int x543), (4, .int x437), (3, .int (nI i6)), (0, .ref o0), (1, .int kk)]) hx hb dX12_holds_39 hl (k := 2) rfl (by first | (rw [ex543]; done) | (rw [ex543]; rfl)) (by decide) rfl (fun ls hl => ?_)
          refine lv_aload_n hx hb dX12_holds_42 rfl (lv_at hl 3 rfl) ?_
          refine tw_get hx hb hts bF_X12 hown hK hT hr_o0 shm_0 rfl 30 (by decide) (ht_at hts 9 rfl) (fun _ h9 => h9) dX12_holds_43 (fun v9 m545 h9 => ?_)
          obtain ⟨rfl, hg546⟩ := h9 _ rfl
          refine lv_iload hx hb dX12_holds_46 (lv_at hl 1 rfl) ?_
          refine tw_lald (i := x437) hx hb hK hT hg546 shm_31 rfl (vin_t (a := x437.toInt) rfl (by omega) (by omega)) dX12_holds_48 (fun v9 m547 h9 => ?_)
          obtain ⟨y548, rfl⟩ := h9
          refine tw_last (i := z7)  hx hb hK hT hG hS hg542 shm_30 rfl (vin_t (a := z7.toInt) rfl (by omega) (by omega)) ⟨_, rfl⟩ dX12_holds_49 (fun H locs hT oq m549 oi hS => ?_)
          have hF := hF.ast hg542 skm_30 oq (by decide)
          have m550 := (el_kept (oq _ (gne hg2 hg542 (by decide)))).trans m9
          refine lv_goto (tgt := 219) hx hb dX12_holds_50 (by decide) ?_
          refine lv_iinc (v := nI (i6 + 1)) (lv' := [(3, .int (nI (i6 + 1))), (2, .int x543), (4, .int x437), (0, .ref o0), (1, .int kk)]) hx hb dX12_holds_219 hl (k := 2) rfl (nI_add i6 1) (by decide) rfl (fun ls hl => ?_)
          refine lv_goto (tgt := 9) hx hb dX12_holds_222 (by decide) ?_
          exact ih419 (i6 + 1) (by omega) (by omega) x543 ⟨(by have q9 := (show x543.toInt = x543.toInt from rfl); (try have q8 := ti_all x543); omega), (by have q9 := (show x543.toInt = x543.toInt from rfl); omega)⟩ _ _ hT hF hS m550 ls (lv_sub hl [0, 1, 3, 4] rfl)
  exact key419 (400 - k5) k5 (by omega) (Nat.le_refl _) 0 ⟨(by have q9 := (show (0 : Int32).toInt = 0 from (by decide)); (try have q8 := ti_all (0 : Int32)); omega), (by have q8 := (q4_ _ hkn_).1; rw [show (bgf kk.toNatClampNeg).toNat = k5 from by have q9 := (show (nI k5).toInt = ((k5 : Nat) : Int) from (nI_toInt (by omega))); omega] at q8; rw [q8]; decide)⟩ _ _ hT hF hS m3 ls (lv_sub hl [0, 1, 2, 3] rfl)
