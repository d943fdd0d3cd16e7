/-- a settler as told, without a farm -/
def zSf (dI : Nat → Nat → Nat) (H : Heap) (a : Nat) (x1 x2 x3 x4 x5 x6 : Int32) : Prop := el H a (dI 10 7) = some (.int (-1)) ∧ el H a (dI 10 8) = some (.int 0) ∧ el H a (dI 10 9) = some (.int 0) ∧ el H a (dI 10 0) = some (.int x1) ∧ el H a (dI 10 1) = some (.int x2) ∧ el H a (dI 10 6) = some (.int x3) ∧ el H a (dI 10 2) = some (.int x4) ∧ el H a (dI 10 3) = some (.int x5) ∧ el H a (dI 10 4) = some (.int x6)
/-- tags given anew: f says which, or none -/
def zmp (f : Nat → Option Nat) (G : gT) : gT := fun a => (G a).bind f
theorem zmp_s {f : Nat → Option Nat} {G : gT} {a t u : Nat} (h : G a = some t) (hf : f t = some u) : zmp f G a = some u := by
  unfold zmp
  rw [h]
  exact hf
theorem zmp_e {f : Nat → Option Nat} {G : gT} {a u : Nat} (h : zmp f G a = some u) : ∃ t, G a = some t ∧ f t = some u := by
  unfold zmp at h
  cases q : G a with
  | none => rw [q] at h; cases h
  | some t => rw [q] at h; exact ⟨t, rfl, h⟩
def rK (f : Nat → Option Nat) (k1 k2 : gT → Value → Prop) : Prop := ∀ (G : gT) (v : Value), k1 G v → k2 (zmp f G) v
def rE (f : Nat → Option Nat) (E1 E2 : gE) : Prop := ∀ (G : gT) (i : Nat) (v : Value), E1 G i v → E2 (zmp f G) i v
def rS (f : Nat → Option Nat) : gS → gS → Prop
  | .inl o, .inl p => o.1 = p.1 ∧ o.2.1 = p.2.1 ∧ rE f o.2.2 p.2.2
  | .inr o, .inr p => o.1 = p.1 ∧ o.2.1 = p.2.1 ∧ rE f o.2.2 p.2.2
  | _, _ => False
theorem rK_I {f : Nat → Option Nat} {lo hi : Int} : rK f (gI lo hi) (gI lo hi) := fun _ _ h => h
theorem rK_W {f : Nat → Option Nat} {lo hi l2 h2 : Int} (h1 : l2 ≤ lo) (h3 : hi ≤ h2) : rK f (gI lo hi) (gI l2 h2) := fun _ _ ⟨i, e, q1, q2⟩ => ⟨i, e, Int.le_trans h1 q1, Int.le_trans q2 h3⟩
theorem rK_J {f : Nat → Option Nat} : rK f gJ gJ := fun _ _ h => h
theorem rK_R {f : Nat → Option Nat} {t u : Nat} (h : f t = some u) : rK f (gR t) (gR u) := fun _ _ ⟨a, h1, h2⟩ => ⟨a, h1, zmp_s h2 h⟩
theorem rK_N {f : Nat → Option Nat} {t u : Nat} (h : f t = some u) : rK f (gN t) (gN u) := fun _ _ ⟨r, h1, h2⟩ => ⟨r, h1, fun a ha => zmp_s (h2 a ha) h⟩
theorem rK_0 {f : Nat → Option Nat} {t u v w : Nat} (h : f t = some u) : rK f (gR t) (gD u v w) := fun _ _ ⟨a, h1, h2⟩ => ⟨a, h1, Or.inl (zmp_s h2 h)⟩
theorem rK_1 {f : Nat → Option Nat} {t u v w : Nat} (h : f t = some v) : rK f (gR t) (gD u v w) := fun _ _ ⟨a, h1, h2⟩ => ⟨a, h1, Or.inr (Or.inl (zmp_s h2 h))⟩
theorem rK_2 {f : Nat → Option Nat} {t u v w : Nat} (h : f t = some w) : rK f (gR t) (gD u v w) := fun _ _ ⟨a, h1, h2⟩ => ⟨a, h1, Or.inr (Or.inr (zmp_s h2 h))⟩
theorem rE_nil {f : Nat → Option Nat} : rE f (gl []) (gl []) := fun _ _ _ _ k h => by cases h
theorem rE_cons {f : Nat → Option Nat} {k1 k2 : gT → Value → Prop} {l1 l2 : List (gT → Value → Prop)} (hk : rK f k1 k2) (hE : rE f (gl l1) (gl l2)) : rE f (gl (k1 :: l1)) (gl (k2 :: l2)) := fun G i v h => by
  cases i with
  | zero =>
    intro k e
    cases e
    exact hk G v (h k1 rfl)
  | succ i => exact fun k e => hE G i v (fun k' e' => h k' e') k e
theorem rE_ga {f : Nat → Option Nat} {k1 k2 : gT → Value → Prop} (hk : rK f k1 k2) : rE f (ga k1) (ga k2) := fun G _ v h => hk G v h
theorem rE_gnb {f : Nat → Option Nat} {n : Int} {t u : Nat} (h : f t = some u) : rE f (gnb n t) (gnb n u) := fun G _ v hv => ⟨fun hi => rK_R h G v (hv.1 hi), rK_N h G v hv.2⟩
theorem gC_mp {D : va_G} {kA : Nat → ClassId} {f : Nat → Option Nat} {sh sh1 : gS} {G : gT} {a : Nat} {H : Heap} (h : gC D kA sh G a H) (hs : rS f sh sh1) : gC D kA sh1 (zmp f G) a H := by
  cases sh with
  | inl o =>
    cases sh1 with
    | inl p =>
      obtain ⟨V, h1, h2⟩ := h
      obtain ⟨c, N, E⟩ := o
      obtain ⟨c1, N1, E1⟩ := p
      obtain ⟨e1, e2, e3⟩ := hs
      have e1 : c = c1 := e1
      have e2 : N = N1 := e2
      subst e1 e2
      exact ⟨V, h1, fun k hk => e3 G k (V k) (h2 k hk)⟩
    | inr p => exact absurd hs (fun z => z)
  | inr o =>
    cases sh1 with
    | inl p => exact absurd hs (fun z => z)
    | inr p =>
      obtain ⟨V, h1, h2⟩ := h
      obtain ⟨c, N, E⟩ := o
      obtain ⟨c1, N1, E1⟩ := p
      obtain ⟨e1, e2, e3⟩ := hs
      have e1 : c = c1 := e1
      have e2 : N = N1 := e2
      subst e1 e2
      exact ⟨V, h1, fun k hk => e3 G k (V k) (h2 k hk)⟩
theorem zmp_2 {f g : Nat → Option Nat} {G : gT} {a t u : Nat} (h : G a = some t) (e : (f t).bind g = some u) : zmp g (zmp f G) a = some u := by
  unfold zmp
  rw [h]
  exact e
theorem zmp_b {f g : Nat → Option Nat} {G : gT} {a t v w : Nat} (h : zmp g (zmp f G) a = some t) (hg : ∀ u, g u = some t → u = v) (hf : ∀ u, f u = some v → u = w) : G a = some w := by
  obtain ⟨u, h1, h2⟩ := zmp_e h
  obtain ⟨z, h3, h4⟩ := zmp_e h1
  rw [hg u h2] at h4
  rw [← hf z h4]
  exact h3
theorem gC_re {D : va_G} {kA : Nat → ClassId} {G G1 : gT} {H : Heap} {q ci N : Nat} {E E1 : gE} (h : gC D kA (.inl (ci, N, E)) G q H) (hk : ∀ k v, k < N → el H q (D.2 ci k) = some v → E G k v → E1 G1 k v) : gC D kA (.inl (ci, N, E1)) G1 q H := by
  obtain ⟨V, ⟨cell, q1, q2, q3, q4⟩, h2⟩ := h
  refine ⟨V, ⟨cell, q1, q2, q3, q4⟩, fun k hk' => hk k (V k) hk' ?_ (h2 k hk')⟩
  unfold el
  rw [q1]
  exact q4 k hk'
theorem gH_mp {D : va_G} {kA : Nat → ClassId} {f : Nat → Option Nat} {Sg : Nat → gS} {G : gT} {H : Heap} (hT : gH D kA Sg G H) (hs : ∀ t u, f t = some u → rS f (Sg t) (Sg u)) : gH D kA Sg (zmp f G) H := by
  intro a u ha
  obtain ⟨t, h1, h2⟩ := zmp_e ha
  exact gC_mp (hT a t h1) (hs t u h2)
theorem gH_un {D : va_G} {kA : Nat → ClassId} {f : Nat → Option Nat} {Sg : Nat → gS} {G : gT} {H : Heap} {b c : Nat} (hT : gH D kA Sg G H) (hs : ∀ t u, t ≠ b → t ≠ c → f t = some u → rS f (Sg t) (Sg u)) (hb : ∀ a u, G a = some b → f b = some u → gC D kA (Sg u) (zmp f G) a H) (hc : ∀ a u, G a = some c → f c = some u → gC D kA (Sg u) (zmp f G) a H) : gH D kA Sg (zmp f G) H := by
  intro a u ha
  obtain ⟨t, h1, h2⟩ := zmp_e ha
  by_cases e : t = b
  · subst e; exact hb a u h1 h2
  · by_cases e2 : t = c
    · subst e2; exact hc a u h1 h2
    · exact gC_mp (hT a t h1) (hs t u e e2 h2)
/-- a table of tags -/
def zt (L : List (Nat × Nat)) (t : Nat) : Option Nat := (L.find? (fun z => z.1 == t)).map Prod.snd
theorem zt_m {L : List (Nat × Nat)} {t u : Nat} (h : zt L t = some u) : (t, u) ∈ L := by
  unfold zt at h
  cases q : L.find? (fun z => z.1 == t) with
  | none => rw [q] at h; cases h
  | some z =>
    rw [q] at h
    have e : z.2 = u := Option.some.inj h
    have e1 : z.1 = t := by have := List.find?_some q; exact eq_of_beq this
    have := List.mem_of_find?_eq_some q
    rw [← e, ← e1]
    exact this
def ZL_s1 : List (Nat × Nat) := ((3, 166) :: (4, 4) :: (5, 5) :: (6, 6) :: (7, 7) :: (8, 8) :: (9, 9) :: (10, 10) :: (11, 11) :: (12, 12) :: (13, 13) :: (14, 167) :: (16, 16) :: (17, 17) :: (18, 18) :: (19, 19) :: (20, 20) :: (21, 21) :: (22, 22) :: (23, 23) :: (24, 24) :: (25, 25) :: (26, 26) :: (27, 27) :: (28, 28) :: (29, 29) :: (30, 30) :: (31, 31) :: (32, 32) :: (33, 33) :: (34, 34) :: (35, 35) :: (36, 36) :: (37, 37) :: (38, 38) :: (39, 39) :: (40, 40) :: (41, 41) :: (42, 42) :: (43, 43) :: (44, 44) :: (45, 45) :: (46, 46) :: (47, 47) :: (48, 48) :: (49, 49) :: (50, 50) :: (51, 51) :: (52, 52) :: (53, 53) :: (54, 54) :: (55, 55) :: (56, 56) :: (57, 57) :: (58, 58) :: (59, 59) :: (60, 60) :: (61, 61) :: (62, 62) :: (63, 63) :: (64, 64) :: (65, 65) :: (66, 66) :: (67, 67) :: (68, 68) :: (69, 69) :: (70, 70) :: (71, 71) :: (72, 72) :: (73, 73) :: (74, 74) :: (75, 75) :: (76, 76) :: (77, 77) :: (78, 78) :: (79, 79) :: (80, 80) :: (81, 81) :: (82, 82) :: (83, 83) :: (84, 84) :: (85, 85) :: (86, 86) :: (87, 87) :: (88, 88) :: (89, 89) :: (90, 90) :: (91, 91) :: (92, 92) :: (93, 93) :: (94, 94) :: (98, 98) :: (140, 140) :: (141, 141) :: (142, 142) :: (143, 143) :: (144, 144) :: (145, 145) :: (146, 146) :: (147, 147) :: (148, 148) :: (149, 149) :: (150, 150) :: (151, 151) :: (152, 152) :: (153, 153) :: (154, 154) :: (155, 155) :: (156, 156) :: (157, 157) :: (158, 158) :: (159, 159) :: (160, 160) :: (161, 161) :: (162, 162) :: (163, 163) :: [])
def zt_s1 : Nat → Option Nat := zt ZL_s1
theorem rs_s1_3 {nC nS : Int} (hgC : 0 ≤ nC ∧ nC ≤ 40) (hgS : 0 ≤ nS ∧ nS ≤ 60) : rS zt_s1 (SHc nC nS 3) (SHc nC nS 166) := ⟨rfl, rfl, (rE_cons (rK_R (by decide)) (rE_cons (rK_R (by decide)) (rE_cons (rK_R (by decide)) (rE_cons (rK_R (by decide)) (rE_cons (rK_R (by decide)) (rE_cons (rK_R (by decide)) (rE_cons (rK_R (by decide)) (rE_cons (rK_0 (by decide)) (rE_cons (rK_1 (by decide)) (rE_cons (rK_2 (by decide)) (rE_cons rK_I (rE_cons rK_I (rE_cons rK_J (rE_cons rK_J (rE_cons (rK_W hgS.1 hgS.2) (rE_cons rK_I (rE_cons rK_I (rE_cons rK_I rE_nil))))))))))))))))))⟩
theorem rs_s1_4 {nC nS : Int} : rS zt_s1 (SHc nC nS 4) (SHc nC nS 4) := ⟨rfl, rfl, (rE_cons rK_I (rE_cons rK_I (rE_cons rK_I (rE_cons rK_I (rE_cons rK_I (rE_cons rK_I (rE_cons rK_I (rE_cons rK_I rE_nil))))))))⟩
theorem rs_s1_5 {nC nS : Int} : rS zt_s1 (SHc nC nS 5) (SHc nC nS 5) := ⟨rfl, rfl, (rE_cons (rK_R (by decide)) (rE_cons (rK_R (by decide)) (rE_cons (rK_R (by decide)) (rE_cons (rK_R (by decide)) (rE_cons (rK_R (by decide)) (rE_cons (rK_R (by decide)) (rE_cons (rK_R (by decide)) (rE_cons (rK_R (by decide)) (rE_cons (rK_R (by decide)) (rE_cons (rK_R (by decide)) (rE_cons (rK_R (by decide)) (rE_cons rK_I (rE_cons rK_I (rE_cons rK_I (rE_cons rK_I rE_nil)))))))))))))))⟩
theorem rs_s1_6 {nC nS : Int} : rS zt_s1 (SHc nC nS 6) (SHc nC nS 6) := ⟨rfl, rfl, (rE_cons (rK_R (by decide)) (rE_cons (rK_R (by decide)) (rE_cons (rK_R (by decide)) (rE_cons rK_I (rE_cons rK_I rE_nil)))))⟩
theorem rs_s1_7 {nC nS : Int} : rS zt_s1 (SHc nC nS 7) (SHc nC nS 7) := ⟨rfl, rfl, (rE_cons (rK_R (by decide)) (rE_cons (rK_R (by decide)) (rE_cons (rK_R (by decide)) (rE_cons (rK_R (by decide)) (rE_cons (rK_R (by decide)) (rE_cons (rK_R (by decide)) (rE_cons (rK_R (by decide)) (rE_cons (rK_R (by decide)) (rE_cons (rK_R (by decide)) (rE_cons (rK_R (by decide)) (rE_cons (rK_R (by decide)) (rE_cons rK_I (rE_cons rK_I (rE_cons rK_I rE_nil))))))))))))))⟩
theorem rs_s1_8 {nC nS : Int} : rS zt_s1 (SHc nC nS 8) (SHc nC nS 8) := ⟨rfl, rfl, (rE_cons (rK_R (by decide)) (rE_cons (rK_R (by decide)) (rE_cons (rK_R (by decide)) (rE_cons (rK_R (by decide)) (rE_cons (rK_R (by decide)) (rE_cons (rK_R (by decide)) (rE_cons (rK_R (by decide)) (rE_cons (rK_R (by decide)) (rE_cons (rK_R (by decide)) (rE_cons (rK_R (by decide)) (rE_cons (rK_R (by decide)) (rE_cons (rK_R (by decide)) (rE_cons rK_I (rE_cons rK_I (rE_cons rK_I (rE_cons rK_I (rE_cons rK_I rE_nil)))))))))))))))))⟩
theorem rs_s1_9 {nC nS : Int} : rS zt_s1 (SHc nC nS 9) (SHc nC nS 9) := ⟨rfl, rfl, (rE_cons (rK_R (by decide)) (rE_cons (rK_R (by decide)) (rE_cons rK_I (rE_cons rK_I rE_nil))))⟩
theorem rs_s1_10 {nC nS : Int} : rS zt_s1 (SHc nC nS 10) (SHc nC nS 10) := ⟨rfl, rfl, (rE_cons rK_I (rE_cons rK_I (rE_cons rK_I (rE_cons rK_I (rE_cons rK_I (rE_cons rK_I (rE_cons rK_I (rE_cons rK_I (rE_cons rK_I (rE_cons rK_I (rE_cons rK_I (rE_cons rK_I rE_nil))))))))))))⟩
theorem rs_s1_11 {nC nS : Int} : rS zt_s1 (SHc nC nS 11) (SHc nC nS 11) := ⟨rfl, rfl, (rE_cons (rK_R (by decide)) (rE_cons (rK_R (by decide)) (rE_cons (rK_R (by decide)) (rE_cons (rK_R (by decide)) (rE_cons (rK_R (by decide)) (rE_cons (rK_R (by decide)) (rE_cons rK_I rE_nil)))))))⟩
theorem rs_s1_12 {nC nS : Int} : rS zt_s1 (SHc nC nS 12) (SHc nC nS 12) := ⟨rfl, rfl, (rE_cons (rK_R (by decide)) (rE_cons (rK_R (by decide)) (rE_cons rK_I rE_nil)))⟩
theorem rs_s1_13 {nC nS : Int} : rS zt_s1 (SHc nC nS 13) (SHc nC nS 13) := ⟨rfl, rfl, (rE_cons (rK_R (by decide)) (rE_cons (rK_R (by decide)) (rE_cons rK_I (rE_cons rK_I (rE_cons rK_I (rE_cons rK_I (rE_cons rK_I (rE_cons rK_I (rE_cons rK_I (rE_cons rK_I (rE_cons rK_I (rE_cons rK_I rE_nil))))))))))))⟩
theorem rs_s1_14 {nC nS : Int} (hgC : 0 ≤ nC ∧ nC ≤ 40) (hgS : 0 ≤ nS ∧ nS ≤ 60) : rS zt_s1 (SHc nC nS 14) (SHc nC nS 167) := ⟨rfl, rfl, (rE_cons (rK_R (by decide)) (rE_cons (rK_R (by decide)) (rE_cons (rK_R (by decide)) (rE_cons (rK_R (by decide)) (rE_cons (rK_R (by decide)) (rE_cons (rK_R (by decide)) (rE_cons (rK_N (by decide)) (rE_cons rK_I (rE_cons (rK_W hgC.1 hgC.2) rE_nil)))))))))⟩
theorem rs_s1_16 {nC nS : Int} : rS zt_s1 (SHc nC nS 16) (SHc nC nS 16) := ⟨rfl, rfl, (rE_ga rK_I)⟩
theorem rs_s1_17 {nC nS : Int} : rS zt_s1 (SHc nC nS 17) (SHc nC nS 17) := ⟨rfl, rfl, (rE_gnb (by decide))⟩
theorem rs_s1_18 {nC nS : Int} : rS zt_s1 (SHc nC nS 18) (SHc nC nS 18) := ⟨rfl, rfl, (rE_ga (rK_R (by decide)))⟩
theorem rs_s1_19 {nC nS : Int} : rS zt_s1 (SHc nC nS 19) (SHc nC nS 19) := ⟨rfl, rfl, (rE_ga rK_I)⟩
theorem rs_s1_20 {nC nS : Int} : rS zt_s1 (SHc nC nS 20) (SHc nC nS 20) := ⟨rfl, rfl, (rE_ga rK_I)⟩
theorem rs_s1_21 {nC nS : Int} : rS zt_s1 (SHc nC nS 21) (SHc nC nS 21) := ⟨rfl, rfl, (rE_ga rK_I)⟩
theorem rs_s1_22 {nC nS : Int} : rS zt_s1 (SHc nC nS 22) (SHc nC nS 22) := ⟨rfl, rfl, (rE_ga rK_I)⟩
theorem rs_s1_23 {nC nS : Int} : rS zt_s1 (SHc nC nS 23) (SHc nC nS 23) := ⟨rfl, rfl, (rE_ga rK_I)⟩
theorem rs_s1_24 {nC nS : Int} : rS zt_s1 (SHc nC nS 24) (SHc nC nS 24) := ⟨rfl, rfl, (rE_ga rK_I)⟩
theorem rs_s1_25 {nC nS : Int} : rS zt_s1 (SHc nC nS 25) (SHc nC nS 25) := ⟨rfl, rfl, (rE_ga rK_I)⟩
theorem rs_s1_26 {nC nS : Int} : rS zt_s1 (SHc nC nS 26) (SHc nC nS 26) := ⟨rfl, rfl, (rE_ga rK_I)⟩
theorem rs_s1_27 {nC nS : Int} : rS zt_s1 (SHc nC nS 27) (SHc nC nS 27) := ⟨rfl, rfl, (rE_ga rK_I)⟩
theorem rs_s1_28 {nC nS : Int} : rS zt_s1 (SHc nC nS 28) (SHc nC nS 28) := ⟨rfl, rfl, (rE_ga rK_I)⟩
theorem rs_s1_29 {nC nS : Int} : rS zt_s1 (SHc nC nS 29) (SHc nC nS 29) := ⟨rfl, rfl, (rE_ga rK_I)⟩
theorem rs_s1_30 {nC nS : Int} : rS zt_s1 (SHc nC nS 30) (SHc nC nS 30) := ⟨rfl, rfl, (rE_ga rK_I)⟩
theorem rs_s1_31 {nC nS : Int} : rS zt_s1 (SHc nC nS 31) (SHc nC nS 31) := ⟨rfl, rfl, (rE_ga rK_I)⟩
theorem rs_s1_32 {nC nS : Int} : rS zt_s1 (SHc nC nS 32) (SHc nC nS 32) := ⟨rfl, rfl, (rE_ga rK_I)⟩
theorem rs_s1_33 {nC nS : Int} : rS zt_s1 (SHc nC nS 33) (SHc nC nS 33) := ⟨rfl, rfl, (rE_ga rK_I)⟩
theorem rs_s1_34 {nC nS : Int} : rS zt_s1 (SHc nC nS 34) (SHc nC nS 34) := ⟨rfl, rfl, (rE_ga rK_I)⟩
theorem rs_s1_35 {nC nS : Int} : rS zt_s1 (SHc nC nS 35) (SHc nC nS 35) := ⟨rfl, rfl, (rE_ga rK_I)⟩
theorem rs_s1_36 {nC nS : Int} : rS zt_s1 (SHc nC nS 36) (SHc nC nS 36) := ⟨rfl, rfl, (rE_ga rK_I)⟩
theorem rs_s1_37 {nC nS : Int} : rS zt_s1 (SHc nC nS 37) (SHc nC nS 37) := ⟨rfl, rfl, (rE_ga rK_I)⟩
theorem rs_s1_38 {nC nS : Int} : rS zt_s1 (SHc nC nS 38) (SHc nC nS 38) := ⟨rfl, rfl, (rE_ga rK_I)⟩
theorem rs_s1_39 {nC nS : Int} : rS zt_s1 (SHc nC nS 39) (SHc nC nS 39) := ⟨rfl, rfl, (rE_ga rK_I)⟩
theorem rs_s1_40 {nC nS : Int} : rS zt_s1 (SHc nC nS 40) (SHc nC nS 40) := ⟨rfl, rfl, (rE_ga rK_I)⟩
theorem rs_s1_41 {nC nS : Int} : rS zt_s1 (SHc nC nS 41) (SHc nC nS 41) := ⟨rfl, rfl, (rE_ga rK_I)⟩
theorem rs_s1_42 {nC nS : Int} : rS zt_s1 (SHc nC nS 42) (SHc nC nS 42) := ⟨rfl, rfl, (rE_ga rK_I)⟩
theorem rs_s1_43 {nC nS : Int} : rS zt_s1 (SHc nC nS 43) (SHc nC nS 43) := ⟨rfl, rfl, (rE_ga rK_I)⟩
theorem rs_s1_44 {nC nS : Int} : rS zt_s1 (SHc nC nS 44) (SHc nC nS 44) := ⟨rfl, rfl, (rE_ga rK_I)⟩
theorem rs_s1_45 {nC nS : Int} : rS zt_s1 (SHc nC nS 45) (SHc nC nS 45) := ⟨rfl, rfl, (rE_ga rK_I)⟩
theorem rs_s1_46 {nC nS : Int} : rS zt_s1 (SHc nC nS 46) (SHc nC nS 46) := ⟨rfl, rfl, (rE_ga rK_I)⟩
theorem rs_s1_47 {nC nS : Int} : rS zt_s1 (SHc nC nS 47) (SHc nC nS 47) := ⟨rfl, rfl, (rE_ga rK_I)⟩
theorem rs_s1_48 {nC nS : Int} : rS zt_s1 (SHc nC nS 48) (SHc nC nS 48) := ⟨rfl, rfl, (rE_ga rK_I)⟩
theorem rs_s1_49 {nC nS : Int} : rS zt_s1 (SHc nC nS 49) (SHc nC nS 49) := ⟨rfl, rfl, (rE_ga rK_I)⟩
theorem rs_s1_50 {nC nS : Int} : rS zt_s1 (SHc nC nS 50) (SHc nC nS 50) := ⟨rfl, rfl, (rE_ga rK_J)⟩
theorem rs_s1_51 {nC nS : Int} : rS zt_s1 (SHc nC nS 51) (SHc nC nS 51) := ⟨rfl, rfl, (rE_gnb (by decide))⟩
theorem rs_s1_52 {nC nS : Int} : rS zt_s1 (SHc nC nS 52) (SHc nC nS 52) := ⟨rfl, rfl, (rE_ga rK_I)⟩
theorem rs_s1_53 {nC nS : Int} : rS zt_s1 (SHc nC nS 53) (SHc nC nS 53) := ⟨rfl, rfl, (rE_ga rK_I)⟩
theorem rs_s1_54 {nC nS : Int} : rS zt_s1 (SHc nC nS 54) (SHc nC nS 54) := ⟨rfl, rfl, (rE_ga rK_I)⟩
theorem rs_s1_55 {nC nS : Int} : rS zt_s1 (SHc nC nS 55) (SHc nC nS 55) := ⟨rfl, rfl, (rE_ga rK_I)⟩
theorem rs_s1_56 {nC nS : Int} : rS zt_s1 (SHc nC nS 56) (SHc nC nS 56) := ⟨rfl, rfl, (rE_ga rK_J)⟩
theorem rs_s1_57 {nC nS : Int} : rS zt_s1 (SHc nC nS 57) (SHc nC nS 57) := ⟨rfl, rfl, (rE_ga rK_I)⟩
theorem rs_s1_58 {nC nS : Int} : rS zt_s1 (SHc nC nS 58) (SHc nC nS 58) := ⟨rfl, rfl, (rE_ga rK_I)⟩
theorem rs_s1_59 {nC nS : Int} : rS zt_s1 (SHc nC nS 59) (SHc nC nS 59) := ⟨rfl, rfl, (rE_ga rK_I)⟩
theorem rs_s1_60 {nC nS : Int} : rS zt_s1 (SHc nC nS 60) (SHc nC nS 60) := ⟨rfl, rfl, (rE_ga rK_I)⟩
theorem rs_s1_61 {nC nS : Int} : rS zt_s1 (SHc nC nS 61) (SHc nC nS 61) := ⟨rfl, rfl, (rE_ga rK_I)⟩
theorem rs_s1_62 {nC nS : Int} : rS zt_s1 (SHc nC nS 62) (SHc nC nS 62) := ⟨rfl, rfl, (rE_ga rK_I)⟩
theorem rs_s1_63 {nC nS : Int} : rS zt_s1 (SHc nC nS 63) (SHc nC nS 63) := ⟨rfl, rfl, (rE_ga rK_I)⟩
theorem rs_s1_64 {nC nS : Int} : rS zt_s1 (SHc nC nS 64) (SHc nC nS 64) := ⟨rfl, rfl, (rE_ga rK_I)⟩
theorem rs_s1_65 {nC nS : Int} : rS zt_s1 (SHc nC nS 65) (SHc nC nS 65) := ⟨rfl, rfl, (rE_ga rK_I)⟩
theorem rs_s1_66 {nC nS : Int} : rS zt_s1 (SHc nC nS 66) (SHc nC nS 66) := ⟨rfl, rfl, (rE_ga rK_I)⟩
theorem rs_s1_67 {nC nS : Int} : rS zt_s1 (SHc nC nS 67) (SHc nC nS 67) := ⟨rfl, rfl, (rE_ga rK_I)⟩
theorem rs_s1_68 {nC nS : Int} : rS zt_s1 (SHc nC nS 68) (SHc nC nS 68) := ⟨rfl, rfl, (rE_ga rK_I)⟩
theorem rs_s1_69 {nC nS : Int} : rS zt_s1 (SHc nC nS 69) (SHc nC nS 69) := ⟨rfl, rfl, (rE_ga rK_I)⟩
theorem rs_s1_70 {nC nS : Int} : rS zt_s1 (SHc nC nS 70) (SHc nC nS 70) := ⟨rfl, rfl, (rE_ga (rK_R (by decide)))⟩
theorem rs_s1_71 {nC nS : Int} : rS zt_s1 (SHc nC nS 71) (SHc nC nS 71) := ⟨rfl, rfl, (rE_ga rK_I)⟩
theorem rs_s1_72 {nC nS : Int} : rS zt_s1 (SHc nC nS 72) (SHc nC nS 72) := ⟨rfl, rfl, (rE_ga rK_I)⟩
theorem rs_s1_73 {nC nS : Int} : rS zt_s1 (SHc nC nS 73) (SHc nC nS 73) := ⟨rfl, rfl, (rE_ga rK_I)⟩
theorem rs_s1_74 {nC nS : Int} : rS zt_s1 (SHc nC nS 74) (SHc nC nS 74) := ⟨rfl, rfl, (rE_ga rK_I)⟩
theorem rs_s1_75 {nC nS : Int} : rS zt_s1 (SHc nC nS 75) (SHc nC nS 75) := ⟨rfl, rfl, (rE_ga rK_I)⟩
theorem rs_s1_76 {nC nS : Int} : rS zt_s1 (SHc nC nS 76) (SHc nC nS 76) := ⟨rfl, rfl, (rE_ga rK_I)⟩
theorem rs_s1_77 {nC nS : Int} : rS zt_s1 (SHc nC nS 77) (SHc nC nS 77) := ⟨rfl, rfl, (rE_ga rK_I)⟩
theorem rs_s1_78 {nC nS : Int} : rS zt_s1 (SHc nC nS 78) (SHc nC nS 78) := ⟨rfl, rfl, (rE_ga rK_I)⟩
theorem rs_s1_79 {nC nS : Int} : rS zt_s1 (SHc nC nS 79) (SHc nC nS 79) := ⟨rfl, rfl, (rE_ga rK_I)⟩
theorem rs_s1_80 {nC nS : Int} : rS zt_s1 (SHc nC nS 80) (SHc nC nS 80) := ⟨rfl, rfl, (rE_ga rK_I)⟩
theorem rs_s1_81 {nC nS : Int} : rS zt_s1 (SHc nC nS 81) (SHc nC nS 81) := ⟨rfl, rfl, (rE_ga rK_I)⟩
theorem rs_s1_82 {nC nS : Int} : rS zt_s1 (SHc nC nS 82) (SHc nC nS 82) := ⟨rfl, rfl, (rE_ga rK_I)⟩
theorem rs_s1_83 {nC nS : Int} : rS zt_s1 (SHc nC nS 83) (SHc nC nS 83) := ⟨rfl, rfl, (rE_ga rK_I)⟩
theorem rs_s1_84 {nC nS : Int} : rS zt_s1 (SHc nC nS 84) (SHc nC nS 84) := ⟨rfl, rfl, (rE_ga rK_I)⟩
theorem rs_s1_85 {nC nS : Int} : rS zt_s1 (SHc nC nS 85) (SHc nC nS 85) := ⟨rfl, rfl, (rE_ga rK_I)⟩
theorem rs_s1_86 {nC nS : Int} : rS zt_s1 (SHc nC nS 86) (SHc nC nS 86) := ⟨rfl, rfl, (rE_ga rK_I)⟩
theorem rs_s1_87 {nC nS : Int} : rS zt_s1 (SHc nC nS 87) (SHc nC nS 87) := ⟨rfl, rfl, (rE_ga rK_I)⟩
theorem rs_s1_88 {nC nS : Int} : rS zt_s1 (SHc nC nS 88) (SHc nC nS 88) := ⟨rfl, rfl, (rE_ga rK_I)⟩
theorem rs_s1_89 {nC nS : Int} : rS zt_s1 (SHc nC nS 89) (SHc nC nS 89) := ⟨rfl, rfl, (rE_ga rK_I)⟩
theorem rs_s1_90 {nC nS : Int} : rS zt_s1 (SHc nC nS 90) (SHc nC nS 90) := ⟨rfl, rfl, (rE_cons (rK_R (by decide)) (rE_cons (rK_R (by decide)) (rE_cons (rK_R (by decide)) (rE_cons rK_I (rE_cons rK_I rE_nil)))))⟩
theorem rs_s1_91 {nC nS : Int} : rS zt_s1 (SHc nC nS 91) (SHc nC nS 91) := ⟨rfl, rfl, (rE_cons (rK_R (by decide)) (rE_cons (rK_R (by decide)) (rE_cons (rK_R (by decide)) (rE_cons (rK_R (by decide)) (rE_cons (rK_R (by decide)) (rE_cons (rK_R (by decide)) (rE_cons rK_I rE_nil)))))))⟩
theorem rs_s1_92 {nC nS : Int} : rS zt_s1 (SHc nC nS 92) (SHc nC nS 92) := ⟨rfl, rfl, (rE_cons (rK_R (by decide)) (rE_cons (rK_R (by decide)) (rE_cons rK_I rE_nil)))⟩
theorem rs_s1_93 {nC nS : Int} : rS zt_s1 (SHc nC nS 93) (SHc nC nS 93) := ⟨rfl, rfl, (rE_cons (rK_R (by decide)) (rE_cons (rK_R (by decide)) (rE_cons (rK_R (by decide)) (rE_cons (rK_R (by decide)) (rE_cons (rK_R (by decide)) (rE_cons (rK_R (by decide)) (rE_cons (rK_R (by decide)) (rE_cons (rK_R (by decide)) (rE_cons (rK_R (by decide)) (rE_cons (rK_R (by decide)) (rE_cons (rK_R (by decide)) (rE_cons rK_I (rE_cons rK_I (rE_cons rK_I (rE_cons rK_I rE_nil)))))))))))))))⟩
theorem rs_s1_94 {nC nS : Int} : rS zt_s1 (SHc nC nS 94) (SHc nC nS 94) := ⟨rfl, rfl, (rE_cons (rK_R (by decide)) (rE_cons (rK_R (by decide)) (rE_cons rK_I (rE_cons rK_I (rE_cons rK_I (rE_cons rK_I (rE_cons rK_I (rE_cons rK_I (rE_cons rK_I (rE_cons rK_I (rE_cons rK_I (rE_cons rK_I rE_nil))))))))))))⟩
theorem rs_s1_98 {nC nS : Int} : rS zt_s1 (SHc nC nS 98) (SHc nC nS 98) := ⟨rfl, rfl, (rE_ga rK_J)⟩
theorem rs_s1_140 {nC nS : Int} : rS zt_s1 (SHc nC nS 140) (SHc nC nS 140) := ⟨rfl, rfl, (rE_cons (rK_R (by decide)) (rE_cons (rK_R (by decide)) (rE_cons (rK_R (by decide)) (rE_cons (rK_R (by decide)) (rE_cons (rK_R (by decide)) (rE_cons (rK_R (by decide)) (rE_cons (rK_R (by decide)) (rE_cons (rK_R (by decide)) (rE_cons (rK_R (by decide)) (rE_cons (rK_R (by decide)) (rE_cons (rK_R (by decide)) (rE_cons rK_I (rE_cons rK_I (rE_cons rK_I rE_nil))))))))))))))⟩
theorem rs_s1_141 {nC nS : Int} : rS zt_s1 (SHc nC nS 141) (SHc nC nS 141) := ⟨rfl, rfl, (rE_ga rK_I)⟩
theorem rs_s1_142 {nC nS : Int} : rS zt_s1 (SHc nC nS 142) (SHc nC nS 142) := ⟨rfl, rfl, (rE_ga rK_I)⟩
theorem rs_s1_143 {nC nS : Int} : rS zt_s1 (SHc nC nS 143) (SHc nC nS 143) := ⟨rfl, rfl, (rE_ga rK_I)⟩
theorem rs_s1_144 {nC nS : Int} : rS zt_s1 (SHc nC nS 144) (SHc nC nS 144) := ⟨rfl, rfl, (rE_ga rK_I)⟩
theorem rs_s1_145 {nC nS : Int} : rS zt_s1 (SHc nC nS 145) (SHc nC nS 145) := ⟨rfl, rfl, (rE_ga rK_I)⟩
theorem rs_s1_146 {nC nS : Int} : rS zt_s1 (SHc nC nS 146) (SHc nC nS 146) := ⟨rfl, rfl, (rE_ga rK_I)⟩
theorem rs_s1_147 {nC nS : Int} : rS zt_s1 (SHc nC nS 147) (SHc nC nS 147) := ⟨rfl, rfl, (rE_ga rK_I)⟩
theorem rs_s1_148 {nC nS : Int} : rS zt_s1 (SHc nC nS 148) (SHc nC nS 148) := ⟨rfl, rfl, (rE_ga rK_I)⟩
theorem rs_s1_149 {nC nS : Int} : rS zt_s1 (SHc nC nS 149) (SHc nC nS 149) := ⟨rfl, rfl, (rE_ga rK_I)⟩
theorem rs_s1_150 {nC nS : Int} : rS zt_s1 (SHc nC nS 150) (SHc nC nS 150) := ⟨rfl, rfl, (rE_ga rK_I)⟩
theorem rs_s1_151 {nC nS : Int} : rS zt_s1 (SHc nC nS 151) (SHc nC nS 151) := ⟨rfl, rfl, (rE_ga rK_J)⟩
theorem rs_s1_152 {nC nS : Int} : rS zt_s1 (SHc nC nS 152) (SHc nC nS 152) := ⟨rfl, rfl, (rE_cons (rK_R (by decide)) (rE_cons (rK_R (by decide)) (rE_cons (rK_R (by decide)) (rE_cons (rK_R (by decide)) (rE_cons (rK_R (by decide)) (rE_cons (rK_R (by decide)) (rE_cons (rK_R (by decide)) (rE_cons (rK_R (by decide)) (rE_cons (rK_R (by decide)) (rE_cons (rK_R (by decide)) (rE_cons (rK_R (by decide)) (rE_cons rK_I (rE_cons rK_I (rE_cons rK_I rE_nil))))))))))))))⟩
theorem rs_s1_153 {nC nS : Int} : rS zt_s1 (SHc nC nS 153) (SHc nC nS 153) := ⟨rfl, rfl, (rE_ga rK_I)⟩
theorem rs_s1_154 {nC nS : Int} : rS zt_s1 (SHc nC nS 154) (SHc nC nS 154) := ⟨rfl, rfl, (rE_ga rK_I)⟩
theorem rs_s1_155 {nC nS : Int} : rS zt_s1 (SHc nC nS 155) (SHc nC nS 155) := ⟨rfl, rfl, (rE_ga rK_I)⟩
theorem rs_s1_156 {nC nS : Int} : rS zt_s1 (SHc nC nS 156) (SHc nC nS 156) := ⟨rfl, rfl, (rE_ga rK_I)⟩
theorem rs_s1_157 {nC nS : Int} : rS zt_s1 (SHc nC nS 157) (SHc nC nS 157) := ⟨rfl, rfl, (rE_ga rK_I)⟩
theorem rs_s1_158 {nC nS : Int} : rS zt_s1 (SHc nC nS 158) (SHc nC nS 158) := ⟨rfl, rfl, (rE_ga rK_I)⟩
theorem rs_s1_159 {nC nS : Int} : rS zt_s1 (SHc nC nS 159) (SHc nC nS 159) := ⟨rfl, rfl, (rE_ga rK_I)⟩
theorem rs_s1_160 {nC nS : Int} : rS zt_s1 (SHc nC nS 160) (SHc nC nS 160) := ⟨rfl, rfl, (rE_ga rK_I)⟩
theorem rs_s1_161 {nC nS : Int} : rS zt_s1 (SHc nC nS 161) (SHc nC nS 161) := ⟨rfl, rfl, (rE_ga rK_I)⟩
theorem rs_s1_162 {nC nS : Int} : rS zt_s1 (SHc nC nS 162) (SHc nC nS 162) := ⟨rfl, rfl, (rE_ga rK_I)⟩
theorem rs_s1_163 {nC nS : Int} : rS zt_s1 (SHc nC nS 163) (SHc nC nS 163) := ⟨rfl, rfl, (rE_ga rK_J)⟩
set_option maxRecDepth 100000 in
theorem rs_s1 {nC nS : Int} (hgC : 0 ≤ nC ∧ nC ≤ 40) (hgS : 0 ≤ nS ∧ nS ≤ 60) : ∀ t u, zt_s1 t = some u → rS zt_s1 (SHc nC nS t) (SHc nC nS u) := by
  intro t u h
  have h := zt_m h
  rcases List.mem_cons.mp h with h | h
  · obtain ⟨rfl, rfl⟩ := Prod.mk.inj h
    exact rs_s1_3 hgC hgS
  rcases List.mem_cons.mp h with h | h
  · obtain ⟨rfl, rfl⟩ := Prod.mk.inj h
    exact rs_s1_4
  rcases List.mem_cons.mp h with h | h
  · obtain ⟨rfl, rfl⟩ := Prod.mk.inj h
    exact rs_s1_5
  rcases List.mem_cons.mp h with h | h
  · obtain ⟨rfl, rfl⟩ := Prod.mk.inj h
    exact rs_s1_6
  rcases List.mem_cons.mp h with h | h
  · obtain ⟨rfl, rfl⟩ := Prod.mk.inj h
    exact rs_s1_7
  rcases List.mem_cons.mp h with h | h
  · obtain ⟨rfl, rfl⟩ := Prod.mk.inj h
    exact rs_s1_8
  rcases List.mem_cons.mp h with h | h
  · obtain ⟨rfl, rfl⟩ := Prod.mk.inj h
    exact rs_s1_9
  rcases List.mem_cons.mp h with h | h
  · obtain ⟨rfl, rfl⟩ := Prod.mk.inj h
    exact rs_s1_10
  rcases List.mem_cons.mp h with h | h
  · obtain ⟨rfl, rfl⟩ := Prod.mk.inj h
    exact rs_s1_11
  rcases List.mem_cons.mp h with h | h
  · obtain ⟨rfl, rfl⟩ := Prod.mk.inj h
    exact rs_s1_12
  rcases List.mem_cons.mp h with h | h
  · obtain ⟨rfl, rfl⟩ := Prod.mk.inj h
    exact rs_s1_13
  rcases List.mem_cons.mp h with h | h
  · obtain ⟨rfl, rfl⟩ := Prod.mk.inj h
    exact rs_s1_14 hgC hgS
  rcases List.mem_cons.mp h with h | h
  · obtain ⟨rfl, rfl⟩ := Prod.mk.inj h
    exact rs_s1_16
  rcases List.mem_cons.mp h with h | h
  · obtain ⟨rfl, rfl⟩ := Prod.mk.inj h
    exact rs_s1_17
  rcases List.mem_cons.mp h with h | h
  · obtain ⟨rfl, rfl⟩ := Prod.mk.inj h
    exact rs_s1_18
  rcases List.mem_cons.mp h with h | h
  · obtain ⟨rfl, rfl⟩ := Prod.mk.inj h
    exact rs_s1_19
  rcases List.mem_cons.mp h with h | h
  · obtain ⟨rfl, rfl⟩ := Prod.mk.inj h
    exact rs_s1_20
  rcases List.mem_cons.mp h with h | h
  · obtain ⟨rfl, rfl⟩ := Prod.mk.inj h
    exact rs_s1_21
  rcases List.mem_cons.mp h with h | h
  · obtain ⟨rfl, rfl⟩ := Prod.mk.inj h
    exact rs_s1_22
  rcases List.mem_cons.mp h with h | h
  · obtain ⟨rfl, rfl⟩ := Prod.mk.inj h
    exact rs_s1_23
  rcases List.mem_cons.mp h with h | h
  · obtain ⟨rfl, rfl⟩ := Prod.mk.inj h
    exact rs_s1_24
  rcases List.mem_cons.mp h with h | h
  · obtain ⟨rfl, rfl⟩ := Prod.mk.inj h
    exact rs_s1_25
  rcases List.mem_cons.mp h with h | h
  · obtain ⟨rfl, rfl⟩ := Prod.mk.inj h
    exact rs_s1_26
  rcases List.mem_cons.mp h with h | h
  · obtain ⟨rfl, rfl⟩ := Prod.mk.inj h
    exact rs_s1_27
  rcases List.mem_cons.mp h with h | h
  · obtain ⟨rfl, rfl⟩ := Prod.mk.inj h
    exact rs_s1_28
  rcases List.mem_cons.mp h with h | h
  · obtain ⟨rfl, rfl⟩ := Prod.mk.inj h
    exact rs_s1_29
  rcases List.mem_cons.mp h with h | h
  · obtain ⟨rfl, rfl⟩ := Prod.mk.inj h
    exact rs_s1_30
  rcases List.mem_cons.mp h with h | h
  · obtain ⟨rfl, rfl⟩ := Prod.mk.inj h
    exact rs_s1_31
  rcases List.mem_cons.mp h with h | h
  · obtain ⟨rfl, rfl⟩ := Prod.mk.inj h
    exact rs_s1_32
  rcases List.mem_cons.mp h with h | h
  · obtain ⟨rfl, rfl⟩ := Prod.mk.inj h
    exact rs_s1_33
  rcases List.mem_cons.mp h with h | h
  · obtain ⟨rfl, rfl⟩ := Prod.mk.inj h
    exact rs_s1_34
  rcases List.mem_cons.mp h with h | h
  · obtain ⟨rfl, rfl⟩ := Prod.mk.inj h
    exact rs_s1_35
  rcases List.mem_cons.mp h with h | h
  · obtain ⟨rfl, rfl⟩ := Prod.mk.inj h
    exact rs_s1_36
  rcases List.mem_cons.mp h with h | h
  · obtain ⟨rfl, rfl⟩ := Prod.mk.inj h
    exact rs_s1_37
  rcases List.mem_cons.mp h with h | h
  · obtain ⟨rfl, rfl⟩ := Prod.mk.inj h
    exact rs_s1_38
  rcases List.mem_cons.mp h with h | h
  · obtain ⟨rfl, rfl⟩ := Prod.mk.inj h
    exact rs_s1_39
  rcases List.mem_cons.mp h with h | h
  · obtain ⟨rfl, rfl⟩ := Prod.mk.inj h
    exact rs_s1_40
  rcases List.mem_cons.mp h with h | h
  · obtain ⟨rfl, rfl⟩ := Prod.mk.inj h
    exact rs_s1_41
  rcases List.mem_cons.mp h with h | h
  · obtain ⟨rfl, rfl⟩ := Prod.mk.inj h
    exact rs_s1_42
  rcases List.mem_cons.mp h with h | h
  · obtain ⟨rfl, rfl⟩ := Prod.mk.inj h
    exact rs_s1_43
  rcases List.mem_cons.mp h with h | h
  · obtain ⟨rfl, rfl⟩ := Prod.mk.inj h
    exact rs_s1_44
  rcases List.mem_cons.mp h with h | h
  · obtain ⟨rfl, rfl⟩ := Prod.mk.inj h
    exact rs_s1_45
  rcases List.mem_cons.mp h with h | h
  · obtain ⟨rfl, rfl⟩ := Prod.mk.inj h
    exact rs_s1_46
  rcases List.mem_cons.mp h with h | h
  · obtain ⟨rfl, rfl⟩ := Prod.mk.inj h
    exact rs_s1_47
  rcases List.mem_cons.mp h with h | h
  · obtain ⟨rfl, rfl⟩ := Prod.mk.inj h
    exact rs_s1_48
  rcases List.mem_cons.mp h with h | h
  · obtain ⟨rfl, rfl⟩ := Prod.mk.inj h
    exact rs_s1_49
  rcases List.mem_cons.mp h with h | h
  · obtain ⟨rfl, rfl⟩ := Prod.mk.inj h
    exact rs_s1_50
  rcases List.mem_cons.mp h with h | h
  · obtain ⟨rfl, rfl⟩ := Prod.mk.inj h
    exact rs_s1_51
  rcases List.mem_cons.mp h with h | h
  · obtain ⟨rfl, rfl⟩ := Prod.mk.inj h
    exact rs_s1_52
  rcases List.mem_cons.mp h with h | h
  · obtain ⟨rfl, rfl⟩ := Prod.mk.inj h
    exact rs_s1_53
  rcases List.mem_cons.mp h with h | h
  · obtain ⟨rfl, rfl⟩ := Prod.mk.inj h
    exact rs_s1_54
  rcases List.mem_cons.mp h with h | h
  · obtain ⟨rfl, rfl⟩ := Prod.mk.inj h
    exact rs_s1_55
  rcases List.mem_cons.mp h with h | h
  · obtain ⟨rfl, rfl⟩ := Prod.mk.inj h
    exact rs_s1_56
  rcases List.mem_cons.mp h with h | h
  · obtain ⟨rfl, rfl⟩ := Prod.mk.inj h
    exact rs_s1_57
  rcases List.mem_cons.mp h with h | h
  · obtain ⟨rfl, rfl⟩ := Prod.mk.inj h
    exact rs_s1_58
  rcases List.mem_cons.mp h with h | h
  · obtain ⟨rfl, rfl⟩ := Prod.mk.inj h
    exact rs_s1_59
  rcases List.mem_cons.mp h with h | h
  · obtain ⟨rfl, rfl⟩ := Prod.mk.inj h
    exact rs_s1_60
  rcases List.mem_cons.mp h with h | h
  · obtain ⟨rfl, rfl⟩ := Prod.mk.inj h
    exact rs_s1_61
  rcases List.mem_cons.mp h with h | h
  · obtain ⟨rfl, rfl⟩ := Prod.mk.inj h
    exact rs_s1_62
  rcases List.mem_cons.mp h with h | h
  · obtain ⟨rfl, rfl⟩ := Prod.mk.inj h
    exact rs_s1_63
  rcases List.mem_cons.mp h with h | h
  · obtain ⟨rfl, rfl⟩ := Prod.mk.inj h
    exact rs_s1_64
  rcases List.mem_cons.mp h with h | h
  · obtain ⟨rfl, rfl⟩ := Prod.mk.inj h
    exact rs_s1_65
  rcases List.mem_cons.mp h with h | h
  · obtain ⟨rfl, rfl⟩ := Prod.mk.inj h
    exact rs_s1_66
  rcases List.mem_cons.mp h with h | h
  · obtain ⟨rfl, rfl⟩ := Prod.mk.inj h
    exact rs_s1_67
  rcases List.mem_cons.mp h with h | h
  · obtain ⟨rfl, rfl⟩ := Prod.mk.inj h
    exact rs_s1_68
  rcases List.mem_cons.mp h with h | h
  · obtain ⟨rfl, rfl⟩ := Prod.mk.inj h
    exact rs_s1_69
  rcases List.mem_cons.mp h with h | h
  · obtain ⟨rfl, rfl⟩ := Prod.mk.inj h
    exact rs_s1_70
  rcases List.mem_cons.mp h with h | h
  · obtain ⟨rfl, rfl⟩ := Prod.mk.inj h
    exact rs_s1_71
  rcases List.mem_cons.mp h with h | h
  · obtain ⟨rfl, rfl⟩ := Prod.mk.inj h
    exact rs_s1_72
  rcases List.mem_cons.mp h with h | h
  · obtain ⟨rfl, rfl⟩ := Prod.mk.inj h
    exact rs_s1_73
  rcases List.mem_cons.mp h with h | h
  · obtain ⟨rfl, rfl⟩ := Prod.mk.inj h
    exact rs_s1_74
  rcases List.mem_cons.mp h with h | h
  · obtain ⟨rfl, rfl⟩ := Prod.mk.inj h
    exact rs_s1_75
  rcases List.mem_cons.mp h with h | h
  · obtain ⟨rfl, rfl⟩ := Prod.mk.inj h
    exact rs_s1_76
  rcases List.mem_cons.mp h with h | h
  · obtain ⟨rfl, rfl⟩ := Prod.mk.inj h
    exact rs_s1_77
  rcases List.mem_cons.mp h with h | h
  · obtain ⟨rfl, rfl⟩ := Prod.mk.inj h
    exact rs_s1_78
  rcases List.mem_cons.mp h with h | h
  · obtain ⟨rfl, rfl⟩ := Prod.mk.inj h
    exact rs_s1_79
  rcases List.mem_cons.mp h with h | h
  · obtain ⟨rfl, rfl⟩ := Prod.mk.inj h
    exact rs_s1_80
  rcases List.mem_cons.mp h with h | h
  · obtain ⟨rfl, rfl⟩ := Prod.mk.inj h
    exact rs_s1_81
  rcases List.mem_cons.mp h with h | h
  · obtain ⟨rfl, rfl⟩ := Prod.mk.inj h
    exact rs_s1_82
  rcases List.mem_cons.mp h with h | h
  · obtain ⟨rfl, rfl⟩ := Prod.mk.inj h
    exact rs_s1_83
  rcases List.mem_cons.mp h with h | h
  · obtain ⟨rfl, rfl⟩ := Prod.mk.inj h
    exact rs_s1_84
  rcases List.mem_cons.mp h with h | h
  · obtain ⟨rfl, rfl⟩ := Prod.mk.inj h
    exact rs_s1_85
  rcases List.mem_cons.mp h with h | h
  · obtain ⟨rfl, rfl⟩ := Prod.mk.inj h
    exact rs_s1_86
  rcases List.mem_cons.mp h with h | h
  · obtain ⟨rfl, rfl⟩ := Prod.mk.inj h
    exact rs_s1_87
  rcases List.mem_cons.mp h with h | h
  · obtain ⟨rfl, rfl⟩ := Prod.mk.inj h
    exact rs_s1_88
  rcases List.mem_cons.mp h with h | h
  · obtain ⟨rfl, rfl⟩ := Prod.mk.inj h
    exact rs_s1_89
  rcases List.mem_cons.mp h with h | h
  · obtain ⟨rfl, rfl⟩ := Prod.mk.inj h
    exact rs_s1_90
  rcases List.mem_cons.mp h with h | h
  · obtain ⟨rfl, rfl⟩ := Prod.mk.inj h
    exact rs_s1_91
  rcases List.mem_cons.mp h with h | h
  · obtain ⟨rfl, rfl⟩ := Prod.mk.inj h
    exact rs_s1_92
  rcases List.mem_cons.mp h with h | h
  · obtain ⟨rfl, rfl⟩ := Prod.mk.inj h
    exact rs_s1_93
  rcases List.mem_cons.mp h with h | h
  · obtain ⟨rfl, rfl⟩ := Prod.mk.inj h
    exact rs_s1_94
  rcases List.mem_cons.mp h with h | h
  · obtain ⟨rfl, rfl⟩ := Prod.mk.inj h
    exact rs_s1_98
  rcases List.mem_cons.mp h with h | h
  · obtain ⟨rfl, rfl⟩ := Prod.mk.inj h
    exact rs_s1_140
  rcases List.mem_cons.mp h with h | h
  · obtain ⟨rfl, rfl⟩ := Prod.mk.inj h
    exact rs_s1_141
  rcases List.mem_cons.mp h with h | h
  · obtain ⟨rfl, rfl⟩ := Prod.mk.inj h
    exact rs_s1_142
  rcases List.mem_cons.mp h with h | h
  · obtain ⟨rfl, rfl⟩ := Prod.mk.inj h
    exact rs_s1_143
  rcases List.mem_cons.mp h with h | h
  · obtain ⟨rfl, rfl⟩ := Prod.mk.inj h
    exact rs_s1_144
  rcases List.mem_cons.mp h with h | h
  · obtain ⟨rfl, rfl⟩ := Prod.mk.inj h
    exact rs_s1_145
  rcases List.mem_cons.mp h with h | h
  · obtain ⟨rfl, rfl⟩ := Prod.mk.inj h
    exact rs_s1_146
  rcases List.mem_cons.mp h with h | h
  · obtain ⟨rfl, rfl⟩ := Prod.mk.inj h
    exact rs_s1_147
  rcases List.mem_cons.mp h with h | h
  · obtain ⟨rfl, rfl⟩ := Prod.mk.inj h
    exact rs_s1_148
  rcases List.mem_cons.mp h with h | h
  · obtain ⟨rfl, rfl⟩ := Prod.mk.inj h
    exact rs_s1_149
  rcases List.mem_cons.mp h with h | h
  · obtain ⟨rfl, rfl⟩ := Prod.mk.inj h
    exact rs_s1_150
  rcases List.mem_cons.mp h with h | h
  · obtain ⟨rfl, rfl⟩ := Prod.mk.inj h
    exact rs_s1_151
  rcases List.mem_cons.mp h with h | h
  · obtain ⟨rfl, rfl⟩ := Prod.mk.inj h
    exact rs_s1_152
  rcases List.mem_cons.mp h with h | h
  · obtain ⟨rfl, rfl⟩ := Prod.mk.inj h
    exact rs_s1_153
  rcases List.mem_cons.mp h with h | h
  · obtain ⟨rfl, rfl⟩ := Prod.mk.inj h
    exact rs_s1_154
  rcases List.mem_cons.mp h with h | h
  · obtain ⟨rfl, rfl⟩ := Prod.mk.inj h
    exact rs_s1_155
  rcases List.mem_cons.mp h with h | h
  · obtain ⟨rfl, rfl⟩ := Prod.mk.inj h
    exact rs_s1_156
  rcases List.mem_cons.mp h with h | h
  · obtain ⟨rfl, rfl⟩ := Prod.mk.inj h
    exact rs_s1_157
  rcases List.mem_cons.mp h with h | h
  · obtain ⟨rfl, rfl⟩ := Prod.mk.inj h
    exact rs_s1_158
  rcases List.mem_cons.mp h with h | h
  · obtain ⟨rfl, rfl⟩ := Prod.mk.inj h
    exact rs_s1_159
  rcases List.mem_cons.mp h with h | h
  · obtain ⟨rfl, rfl⟩ := Prod.mk.inj h
    exact rs_s1_160
  rcases List.mem_cons.mp h with h | h
  · obtain ⟨rfl, rfl⟩ := Prod.mk.inj h
    exact rs_s1_161
  rcases List.mem_cons.mp h with h | h
  · obtain ⟨rfl, rfl⟩ := Prod.mk.inj h
    exact rs_s1_162
  rcases List.mem_cons.mp h with h | h
  · obtain ⟨rfl, rfl⟩ := Prod.mk.inj h
    exact rs_s1_163
  exact absurd h List.not_mem_nil
def ZL_r0 : List (Nat × Nat) := ((4, 4) :: (5, 5) :: (6, 6) :: (7, 7) :: (8, 8) :: (9, 9) :: (10, 10) :: (11, 11) :: (12, 12) :: (13, 13) :: (16, 16) :: (17, 17) :: (18, 18) :: (19, 19) :: (20, 20) :: (21, 21) :: (22, 22) :: (23, 23) :: (24, 24) :: (25, 25) :: (26, 26) :: (27, 27) :: (28, 28) :: (29, 29) :: (30, 30) :: (31, 31) :: (32, 32) :: (33, 33) :: (34, 34) :: (35, 35) :: (36, 36) :: (37, 37) :: (38, 38) :: (39, 39) :: (40, 40) :: (41, 41) :: (42, 42) :: (43, 43) :: (44, 44) :: (45, 45) :: (46, 46) :: (47, 47) :: (48, 48) :: (49, 49) :: (50, 50) :: (51, 51) :: (52, 52) :: (53, 53) :: (54, 54) :: (55, 55) :: (56, 56) :: (57, 57) :: (58, 58) :: (59, 59) :: (60, 60) :: (61, 61) :: (62, 62) :: (63, 63) :: (64, 64) :: (65, 65) :: (66, 66) :: (67, 67) :: (68, 68) :: (69, 69) :: (70, 70) :: (71, 71) :: (72, 72) :: (73, 73) :: (74, 74) :: (75, 75) :: (76, 76) :: (77, 77) :: (78, 78) :: (79, 79) :: (80, 80) :: (81, 81) :: (82, 82) :: (83, 83) :: (84, 84) :: (85, 85) :: (86, 86) :: (87, 87) :: (88, 88) :: (89, 89) :: (90, 90) :: (91, 91) :: (92, 92) :: (93, 93) :: (94, 94) :: (98, 98) :: (140, 140) :: (141, 141) :: (142, 142) :: (143, 143) :: (144, 144) :: (145, 145) :: (146, 146) :: (147, 147) :: (148, 148) :: (149, 149) :: (150, 150) :: (151, 151) :: (152, 152) :: (153, 153) :: (154, 154) :: (155, 155) :: (156, 156) :: (157, 157) :: (158, 158) :: (159, 159) :: (160, 160) :: (161, 161) :: (162, 162) :: (163, 163) :: (166, 3) :: (167, 14) :: [])
def zt_r0 : Nat → Option Nat := zt ZL_r0
theorem rs_r0_4 {nC nS : Int} : rS zt_r0 (SHc nC nS 4) (SHc nC nS 4) := ⟨rfl, rfl, (rE_cons rK_I (rE_cons rK_I (rE_cons rK_I (rE_cons rK_I (rE_cons rK_I (rE_cons rK_I (rE_cons rK_I (rE_cons rK_I rE_nil))))))))⟩
theorem rs_r0_5 {nC nS : Int} : rS zt_r0 (SHc nC nS 5) (SHc nC nS 5) := ⟨rfl, rfl, (rE_cons (rK_R (by decide)) (rE_cons (rK_R (by decide)) (rE_cons (rK_R (by decide)) (rE_cons (rK_R (by decide)) (rE_cons (rK_R (by decide)) (rE_cons (rK_R (by decide)) (rE_cons (rK_R (by decide)) (rE_cons (rK_R (by decide)) (rE_cons (rK_R (by decide)) (rE_cons (rK_R (by decide)) (rE_cons (rK_R (by decide)) (rE_cons rK_I (rE_cons rK_I (rE_cons rK_I (rE_cons rK_I rE_nil)))))))))))))))⟩
theorem rs_r0_6 {nC nS : Int} : rS zt_r0 (SHc nC nS 6) (SHc nC nS 6) := ⟨rfl, rfl, (rE_cons (rK_R (by decide)) (rE_cons (rK_R (by decide)) (rE_cons (rK_R (by decide)) (rE_cons rK_I (rE_cons rK_I rE_nil)))))⟩
theorem rs_r0_7 {nC nS : Int} : rS zt_r0 (SHc nC nS 7) (SHc nC nS 7) := ⟨rfl, rfl, (rE_cons (rK_R (by decide)) (rE_cons (rK_R (by decide)) (rE_cons (rK_R (by decide)) (rE_cons (rK_R (by decide)) (rE_cons (rK_R (by decide)) (rE_cons (rK_R (by decide)) (rE_cons (rK_R (by decide)) (rE_cons (rK_R (by decide)) (rE_cons (rK_R (by decide)) (rE_cons (rK_R (by decide)) (rE_cons (rK_R (by decide)) (rE_cons rK_I (rE_cons rK_I (rE_cons rK_I rE_nil))))))))))))))⟩
theorem rs_r0_8 {nC nS : Int} : rS zt_r0 (SHc nC nS 8) (SHc nC nS 8) := ⟨rfl, rfl, (rE_cons (rK_R (by decide)) (rE_cons (rK_R (by decide)) (rE_cons (rK_R (by decide)) (rE_cons (rK_R (by decide)) (rE_cons (rK_R (by decide)) (rE_cons (rK_R (by decide)) (rE_cons (rK_R (by decide)) (rE_cons (rK_R (by decide)) (rE_cons (rK_R (by decide)) (rE_cons (rK_R (by decide)) (rE_cons (rK_R (by decide)) (rE_cons (rK_R (by decide)) (rE_cons rK_I (rE_cons rK_I (rE_cons rK_I (rE_cons rK_I (rE_cons rK_I rE_nil)))))))))))))))))⟩
theorem rs_r0_9 {nC nS : Int} : rS zt_r0 (SHc nC nS 9) (SHc nC nS 9) := ⟨rfl, rfl, (rE_cons (rK_R (by decide)) (rE_cons (rK_R (by decide)) (rE_cons rK_I (rE_cons rK_I rE_nil))))⟩
theorem rs_r0_10 {nC nS : Int} : rS zt_r0 (SHc nC nS 10) (SHc nC nS 10) := ⟨rfl, rfl, (rE_cons rK_I (rE_cons rK_I (rE_cons rK_I (rE_cons rK_I (rE_cons rK_I (rE_cons rK_I (rE_cons rK_I (rE_cons rK_I (rE_cons rK_I (rE_cons rK_I (rE_cons rK_I (rE_cons rK_I rE_nil))))))))))))⟩
theorem rs_r0_11 {nC nS : Int} : rS zt_r0 (SHc nC nS 11) (SHc nC nS 11) := ⟨rfl, rfl, (rE_cons (rK_R (by decide)) (rE_cons (rK_R (by decide)) (rE_cons (rK_R (by decide)) (rE_cons (rK_R (by decide)) (rE_cons (rK_R (by decide)) (rE_cons (rK_R (by decide)) (rE_cons rK_I rE_nil)))))))⟩
theorem rs_r0_12 {nC nS : Int} : rS zt_r0 (SHc nC nS 12) (SHc nC nS 12) := ⟨rfl, rfl, (rE_cons (rK_R (by decide)) (rE_cons (rK_R (by decide)) (rE_cons rK_I rE_nil)))⟩
theorem rs_r0_13 {nC nS : Int} : rS zt_r0 (SHc nC nS 13) (SHc nC nS 13) := ⟨rfl, rfl, (rE_cons (rK_R (by decide)) (rE_cons (rK_R (by decide)) (rE_cons rK_I (rE_cons rK_I (rE_cons rK_I (rE_cons rK_I (rE_cons rK_I (rE_cons rK_I (rE_cons rK_I (rE_cons rK_I (rE_cons rK_I (rE_cons rK_I rE_nil))))))))))))⟩
theorem rs_r0_16 {nC nS : Int} : rS zt_r0 (SHc nC nS 16) (SHc nC nS 16) := ⟨rfl, rfl, (rE_ga rK_I)⟩
theorem rs_r0_17 {nC nS : Int} : rS zt_r0 (SHc nC nS 17) (SHc nC nS 17) := ⟨rfl, rfl, (rE_gnb (by decide))⟩
theorem rs_r0_18 {nC nS : Int} : rS zt_r0 (SHc nC nS 18) (SHc nC nS 18) := ⟨rfl, rfl, (rE_ga (rK_R (by decide)))⟩
theorem rs_r0_19 {nC nS : Int} : rS zt_r0 (SHc nC nS 19) (SHc nC nS 19) := ⟨rfl, rfl, (rE_ga rK_I)⟩
theorem rs_r0_20 {nC nS : Int} : rS zt_r0 (SHc nC nS 20) (SHc nC nS 20) := ⟨rfl, rfl, (rE_ga rK_I)⟩
theorem rs_r0_21 {nC nS : Int} : rS zt_r0 (SHc nC nS 21) (SHc nC nS 21) := ⟨rfl, rfl, (rE_ga rK_I)⟩
theorem rs_r0_22 {nC nS : Int} : rS zt_r0 (SHc nC nS 22) (SHc nC nS 22) := ⟨rfl, rfl, (rE_ga rK_I)⟩
theorem rs_r0_23 {nC nS : Int} : rS zt_r0 (SHc nC nS 23) (SHc nC nS 23) := ⟨rfl, rfl, (rE_ga rK_I)⟩
theorem rs_r0_24 {nC nS : Int} : rS zt_r0 (SHc nC nS 24) (SHc nC nS 24) := ⟨rfl, rfl, (rE_ga rK_I)⟩
theorem rs_r0_25 {nC nS : Int} : rS zt_r0 (SHc nC nS 25) (SHc nC nS 25) := ⟨rfl, rfl, (rE_ga rK_I)⟩
theorem rs_r0_26 {nC nS : Int} : rS zt_r0 (SHc nC nS 26) (SHc nC nS 26) := ⟨rfl, rfl, (rE_ga rK_I)⟩
theorem rs_r0_27 {nC nS : Int} : rS zt_r0 (SHc nC nS 27) (SHc nC nS 27) := ⟨rfl, rfl, (rE_ga rK_I)⟩
theorem rs_r0_28 {nC nS : Int} : rS zt_r0 (SHc nC nS 28) (SHc nC nS 28) := ⟨rfl, rfl, (rE_ga rK_I)⟩
theorem rs_r0_29 {nC nS : Int} : rS zt_r0 (SHc nC nS 29) (SHc nC nS 29) := ⟨rfl, rfl, (rE_ga rK_I)⟩
theorem rs_r0_30 {nC nS : Int} : rS zt_r0 (SHc nC nS 30) (SHc nC nS 30) := ⟨rfl, rfl, (rE_ga rK_I)⟩
theorem rs_r0_31 {nC nS : Int} : rS zt_r0 (SHc nC nS 31) (SHc nC nS 31) := ⟨rfl, rfl, (rE_ga rK_I)⟩
theorem rs_r0_32 {nC nS : Int} : rS zt_r0 (SHc nC nS 32) (SHc nC nS 32) := ⟨rfl, rfl, (rE_ga rK_I)⟩
theorem rs_r0_33 {nC nS : Int} : rS zt_r0 (SHc nC nS 33) (SHc nC nS 33) := ⟨rfl, rfl, (rE_ga rK_I)⟩
theorem rs_r0_34 {nC nS : Int} : rS zt_r0 (SHc nC nS 34) (SHc nC nS 34) := ⟨rfl, rfl, (rE_ga rK_I)⟩
theorem rs_r0_35 {nC nS : Int} : rS zt_r0 (SHc nC nS 35) (SHc nC nS 35) := ⟨rfl, rfl, (rE_ga rK_I)⟩
theorem rs_r0_36 {nC nS : Int} : rS zt_r0 (SHc nC nS 36) (SHc nC nS 36) := ⟨rfl, rfl, (rE_ga rK_I)⟩
theorem rs_r0_37 {nC nS : Int} : rS zt_r0 (SHc nC nS 37) (SHc nC nS 37) := ⟨rfl, rfl, (rE_ga rK_I)⟩
theorem rs_r0_38 {nC nS : Int} : rS zt_r0 (SHc nC nS 38) (SHc nC nS 38) := ⟨rfl, rfl, (rE_ga rK_I)⟩
theorem rs_r0_39 {nC nS : Int} : rS zt_r0 (SHc nC nS 39) (SHc nC nS 39) := ⟨rfl, rfl, (rE_ga rK_I)⟩
theorem rs_r0_40 {nC nS : Int} : rS zt_r0 (SHc nC nS 40) (SHc nC nS 40) := ⟨rfl, rfl, (rE_ga rK_I)⟩
theorem rs_r0_41 {nC nS : Int} : rS zt_r0 (SHc nC nS 41) (SHc nC nS 41) := ⟨rfl, rfl, (rE_ga rK_I)⟩
theorem rs_r0_42 {nC nS : Int} : rS zt_r0 (SHc nC nS 42) (SHc nC nS 42) := ⟨rfl, rfl, (rE_ga rK_I)⟩
theorem rs_r0_43 {nC nS : Int} : rS zt_r0 (SHc nC nS 43) (SHc nC nS 43) := ⟨rfl, rfl, (rE_ga rK_I)⟩
theorem rs_r0_44 {nC nS : Int} : rS zt_r0 (SHc nC nS 44) (SHc nC nS 44) := ⟨rfl, rfl, (rE_ga rK_I)⟩
theorem rs_r0_45 {nC nS : Int} : rS zt_r0 (SHc nC nS 45) (SHc nC nS 45) := ⟨rfl, rfl, (rE_ga rK_I)⟩
theorem rs_r0_46 {nC nS : Int} : rS zt_r0 (SHc nC nS 46) (SHc nC nS 46) := ⟨rfl, rfl, (rE_ga rK_I)⟩
theorem rs_r0_47 {nC nS : Int} : rS zt_r0 (SHc nC nS 47) (SHc nC nS 47) := ⟨rfl, rfl, (rE_ga rK_I)⟩
theorem rs_r0_48 {nC nS : Int} : rS zt_r0 (SHc nC nS 48) (SHc nC nS 48) := ⟨rfl, rfl, (rE_ga rK_I)⟩
theorem rs_r0_49 {nC nS : Int} : rS zt_r0 (SHc nC nS 49) (SHc nC nS 49) := ⟨rfl, rfl, (rE_ga rK_I)⟩
theorem rs_r0_50 {nC nS : Int} : rS zt_r0 (SHc nC nS 50) (SHc nC nS 50) := ⟨rfl, rfl, (rE_ga rK_J)⟩
theorem rs_r0_51 {nC nS : Int} : rS zt_r0 (SHc nC nS 51) (SHc nC nS 51) := ⟨rfl, rfl, (rE_gnb (by decide))⟩
theorem rs_r0_52 {nC nS : Int} : rS zt_r0 (SHc nC nS 52) (SHc nC nS 52) := ⟨rfl, rfl, (rE_ga rK_I)⟩
theorem rs_r0_53 {nC nS : Int} : rS zt_r0 (SHc nC nS 53) (SHc nC nS 53) := ⟨rfl, rfl, (rE_ga rK_I)⟩
theorem rs_r0_54 {nC nS : Int} : rS zt_r0 (SHc nC nS 54) (SHc nC nS 54) := ⟨rfl, rfl, (rE_ga rK_I)⟩
theorem rs_r0_55 {nC nS : Int} : rS zt_r0 (SHc nC nS 55) (SHc nC nS 55) := ⟨rfl, rfl, (rE_ga rK_I)⟩
theorem rs_r0_56 {nC nS : Int} : rS zt_r0 (SHc nC nS 56) (SHc nC nS 56) := ⟨rfl, rfl, (rE_ga rK_J)⟩
theorem rs_r0_57 {nC nS : Int} : rS zt_r0 (SHc nC nS 57) (SHc nC nS 57) := ⟨rfl, rfl, (rE_ga rK_I)⟩
theorem rs_r0_58 {nC nS : Int} : rS zt_r0 (SHc nC nS 58) (SHc nC nS 58) := ⟨rfl, rfl, (rE_ga rK_I)⟩
theorem rs_r0_59 {nC nS : Int} : rS zt_r0 (SHc nC nS 59) (SHc nC nS 59) := ⟨rfl, rfl, (rE_ga rK_I)⟩
theorem rs_r0_60 {nC nS : Int} : rS zt_r0 (SHc nC nS 60) (SHc nC nS 60) := ⟨rfl, rfl, (rE_ga rK_I)⟩
theorem rs_r0_61 {nC nS : Int} : rS zt_r0 (SHc nC nS 61) (SHc nC nS 61) := ⟨rfl, rfl, (rE_ga rK_I)⟩
theorem rs_r0_62 {nC nS : Int} : rS zt_r0 (SHc nC nS 62) (SHc nC nS 62) := ⟨rfl, rfl, (rE_ga rK_I)⟩
theorem rs_r0_63 {nC nS : Int} : rS zt_r0 (SHc nC nS 63) (SHc nC nS 63) := ⟨rfl, rfl, (rE_ga rK_I)⟩
theorem rs_r0_64 {nC nS : Int} : rS zt_r0 (SHc nC nS 64) (SHc nC nS 64) := ⟨rfl, rfl, (rE_ga rK_I)⟩
theorem rs_r0_65 {nC nS : Int} : rS zt_r0 (SHc nC nS 65) (SHc nC nS 65) := ⟨rfl, rfl, (rE_ga rK_I)⟩
theorem rs_r0_66 {nC nS : Int} : rS zt_r0 (SHc nC nS 66) (SHc nC nS 66) := ⟨rfl, rfl, (rE_ga rK_I)⟩
theorem rs_r0_67 {nC nS : Int} : rS zt_r0 (SHc nC nS 67) (SHc nC nS 67) := ⟨rfl, rfl, (rE_ga rK_I)⟩
theorem rs_r0_68 {nC nS : Int} : rS zt_r0 (SHc nC nS 68) (SHc nC nS 68) := ⟨rfl, rfl, (rE_ga rK_I)⟩
theorem rs_r0_69 {nC nS : Int} : rS zt_r0 (SHc nC nS 69) (SHc nC nS 69) := ⟨rfl, rfl, (rE_ga rK_I)⟩
theorem rs_r0_70 {nC nS : Int} : rS zt_r0 (SHc nC nS 70) (SHc nC nS 70) := ⟨rfl, rfl, (rE_ga (rK_R (by decide)))⟩
theorem rs_r0_71 {nC nS : Int} : rS zt_r0 (SHc nC nS 71) (SHc nC nS 71) := ⟨rfl, rfl, (rE_ga rK_I)⟩
theorem rs_r0_72 {nC nS : Int} : rS zt_r0 (SHc nC nS 72) (SHc nC nS 72) := ⟨rfl, rfl, (rE_ga rK_I)⟩
theorem rs_r0_73 {nC nS : Int} : rS zt_r0 (SHc nC nS 73) (SHc nC nS 73) := ⟨rfl, rfl, (rE_ga rK_I)⟩
theorem rs_r0_74 {nC nS : Int} : rS zt_r0 (SHc nC nS 74) (SHc nC nS 74) := ⟨rfl, rfl, (rE_ga rK_I)⟩
theorem rs_r0_75 {nC nS : Int} : rS zt_r0 (SHc nC nS 75) (SHc nC nS 75) := ⟨rfl, rfl, (rE_ga rK_I)⟩
theorem rs_r0_76 {nC nS : Int} : rS zt_r0 (SHc nC nS 76) (SHc nC nS 76) := ⟨rfl, rfl, (rE_ga rK_I)⟩
theorem rs_r0_77 {nC nS : Int} : rS zt_r0 (SHc nC nS 77) (SHc nC nS 77) := ⟨rfl, rfl, (rE_ga rK_I)⟩
theorem rs_r0_78 {nC nS : Int} : rS zt_r0 (SHc nC nS 78) (SHc nC nS 78) := ⟨rfl, rfl, (rE_ga rK_I)⟩
theorem rs_r0_79 {nC nS : Int} : rS zt_r0 (SHc nC nS 79) (SHc nC nS 79) := ⟨rfl, rfl, (rE_ga rK_I)⟩
theorem rs_r0_80 {nC nS : Int} : rS zt_r0 (SHc nC nS 80) (SHc nC nS 80) := ⟨rfl, rfl, (rE_ga rK_I)⟩
theorem rs_r0_81 {nC nS : Int} : rS zt_r0 (SHc nC nS 81) (SHc nC nS 81) := ⟨rfl, rfl, (rE_ga rK_I)⟩
theorem rs_r0_82 {nC nS : Int} : rS zt_r0 (SHc nC nS 82) (SHc nC nS 82) := ⟨rfl, rfl, (rE_ga rK_I)⟩
theorem rs_r0_83 {nC nS : Int} : rS zt_r0 (SHc nC nS 83) (SHc nC nS 83) := ⟨rfl, rfl, (rE_ga rK_I)⟩
theorem rs_r0_84 {nC nS : Int} : rS zt_r0 (SHc nC nS 84) (SHc nC nS 84) := ⟨rfl, rfl, (rE_ga rK_I)⟩
theorem rs_r0_85 {nC nS : Int} : rS zt_r0 (SHc nC nS 85) (SHc nC nS 85) := ⟨rfl, rfl, (rE_ga rK_I)⟩
theorem rs_r0_86 {nC nS : Int} : rS zt_r0 (SHc nC nS 86) (SHc nC nS 86) := ⟨rfl, rfl, (rE_ga rK_I)⟩
theorem rs_r0_87 {nC nS : Int} : rS zt_r0 (SHc nC nS 87) (SHc nC nS 87) := ⟨rfl, rfl, (rE_ga rK_I)⟩
theorem rs_r0_88 {nC nS : Int} : rS zt_r0 (SHc nC nS 88) (SHc nC nS 88) := ⟨rfl, rfl, (rE_ga rK_I)⟩
theorem rs_r0_89 {nC nS : Int} : rS zt_r0 (SHc nC nS 89) (SHc nC nS 89) := ⟨rfl, rfl, (rE_ga rK_I)⟩
theorem rs_r0_90 {nC nS : Int} : rS zt_r0 (SHc nC nS 90) (SHc nC nS 90) := ⟨rfl, rfl, (rE_cons (rK_R (by decide)) (rE_cons (rK_R (by decide)) (rE_cons (rK_R (by decide)) (rE_cons rK_I (rE_cons rK_I rE_nil)))))⟩
theorem rs_r0_91 {nC nS : Int} : rS zt_r0 (SHc nC nS 91) (SHc nC nS 91) := ⟨rfl, rfl, (rE_cons (rK_R (by decide)) (rE_cons (rK_R (by decide)) (rE_cons (rK_R (by decide)) (rE_cons (rK_R (by decide)) (rE_cons (rK_R (by decide)) (rE_cons (rK_R (by decide)) (rE_cons rK_I rE_nil)))))))⟩
theorem rs_r0_92 {nC nS : Int} : rS zt_r0 (SHc nC nS 92) (SHc nC nS 92) := ⟨rfl, rfl, (rE_cons (rK_R (by decide)) (rE_cons (rK_R (by decide)) (rE_cons rK_I rE_nil)))⟩
theorem rs_r0_93 {nC nS : Int} : rS zt_r0 (SHc nC nS 93) (SHc nC nS 93) := ⟨rfl, rfl, (rE_cons (rK_R (by decide)) (rE_cons (rK_R (by decide)) (rE_cons (rK_R (by decide)) (rE_cons (rK_R (by decide)) (rE_cons (rK_R (by decide)) (rE_cons (rK_R (by decide)) (rE_cons (rK_R (by decide)) (rE_cons (rK_R (by decide)) (rE_cons (rK_R (by decide)) (rE_cons (rK_R (by decide)) (rE_cons (rK_R (by decide)) (rE_cons rK_I (rE_cons rK_I (rE_cons rK_I (rE_cons rK_I rE_nil)))))))))))))))⟩
theorem rs_r0_94 {nC nS : Int} : rS zt_r0 (SHc nC nS 94) (SHc nC nS 94) := ⟨rfl, rfl, (rE_cons (rK_R (by decide)) (rE_cons (rK_R (by decide)) (rE_cons rK_I (rE_cons rK_I (rE_cons rK_I (rE_cons rK_I (rE_cons rK_I (rE_cons rK_I (rE_cons rK_I (rE_cons rK_I (rE_cons rK_I (rE_cons rK_I rE_nil))))))))))))⟩
theorem rs_r0_98 {nC nS : Int} : rS zt_r0 (SHc nC nS 98) (SHc nC nS 98) := ⟨rfl, rfl, (rE_ga rK_J)⟩
theorem rs_r0_140 {nC nS : Int} : rS zt_r0 (SHc nC nS 140) (SHc nC nS 140) := ⟨rfl, rfl, (rE_cons (rK_R (by decide)) (rE_cons (rK_R (by decide)) (rE_cons (rK_R (by decide)) (rE_cons (rK_R (by decide)) (rE_cons (rK_R (by decide)) (rE_cons (rK_R (by decide)) (rE_cons (rK_R (by decide)) (rE_cons (rK_R (by decide)) (rE_cons (rK_R (by decide)) (rE_cons (rK_R (by decide)) (rE_cons (rK_R (by decide)) (rE_cons rK_I (rE_cons rK_I (rE_cons rK_I rE_nil))))))))))))))⟩
theorem rs_r0_141 {nC nS : Int} : rS zt_r0 (SHc nC nS 141) (SHc nC nS 141) := ⟨rfl, rfl, (rE_ga rK_I)⟩
theorem rs_r0_142 {nC nS : Int} : rS zt_r0 (SHc nC nS 142) (SHc nC nS 142) := ⟨rfl, rfl, (rE_ga rK_I)⟩
theorem rs_r0_143 {nC nS : Int} : rS zt_r0 (SHc nC nS 143) (SHc nC nS 143) := ⟨rfl, rfl, (rE_ga rK_I)⟩
theorem rs_r0_144 {nC nS : Int} : rS zt_r0 (SHc nC nS 144) (SHc nC nS 144) := ⟨rfl, rfl, (rE_ga rK_I)⟩
theorem rs_r0_145 {nC nS : Int} : rS zt_r0 (SHc nC nS 145) (SHc nC nS 145) := ⟨rfl, rfl, (rE_ga rK_I)⟩
theorem rs_r0_146 {nC nS : Int} : rS zt_r0 (SHc nC nS 146) (SHc nC nS 146) := ⟨rfl, rfl, (rE_ga rK_I)⟩
theorem rs_r0_147 {nC nS : Int} : rS zt_r0 (SHc nC nS 147) (SHc nC nS 147) := ⟨rfl, rfl, (rE_ga rK_I)⟩
theorem rs_r0_148 {nC nS : Int} : rS zt_r0 (SHc nC nS 148) (SHc nC nS 148) := ⟨rfl, rfl, (rE_ga rK_I)⟩
theorem rs_r0_149 {nC nS : Int} : rS zt_r0 (SHc nC nS 149) (SHc nC nS 149) := ⟨rfl, rfl, (rE_ga rK_I)⟩
theorem rs_r0_150 {nC nS : Int} : rS zt_r0 (SHc nC nS 150) (SHc nC nS 150) := ⟨rfl, rfl, (rE_ga rK_I)⟩
theorem rs_r0_151 {nC nS : Int} : rS zt_r0 (SHc nC nS 151) (SHc nC nS 151) := ⟨rfl, rfl, (rE_ga rK_J)⟩
theorem rs_r0_152 {nC nS : Int} : rS zt_r0 (SHc nC nS 152) (SHc nC nS 152) := ⟨rfl, rfl, (rE_cons (rK_R (by decide)) (rE_cons (rK_R (by decide)) (rE_cons (rK_R (by decide)) (rE_cons (rK_R (by decide)) (rE_cons (rK_R (by decide)) (rE_cons (rK_R (by decide)) (rE_cons (rK_R (by decide)) (rE_cons (rK_R (by decide)) (rE_cons (rK_R (by decide)) (rE_cons (rK_R (by decide)) (rE_cons (rK_R (by decide)) (rE_cons rK_I (rE_cons rK_I (rE_cons rK_I rE_nil))))))))))))))⟩
theorem rs_r0_153 {nC nS : Int} : rS zt_r0 (SHc nC nS 153) (SHc nC nS 153) := ⟨rfl, rfl, (rE_ga rK_I)⟩
theorem rs_r0_154 {nC nS : Int} : rS zt_r0 (SHc nC nS 154) (SHc nC nS 154) := ⟨rfl, rfl, (rE_ga rK_I)⟩
theorem rs_r0_155 {nC nS : Int} : rS zt_r0 (SHc nC nS 155) (SHc nC nS 155) := ⟨rfl, rfl, (rE_ga rK_I)⟩
theorem rs_r0_156 {nC nS : Int} : rS zt_r0 (SHc nC nS 156) (SHc nC nS 156) := ⟨rfl, rfl, (rE_ga rK_I)⟩
theorem rs_r0_157 {nC nS : Int} : rS zt_r0 (SHc nC nS 157) (SHc nC nS 157) := ⟨rfl, rfl, (rE_ga rK_I)⟩
theorem rs_r0_158 {nC nS : Int} : rS zt_r0 (SHc nC nS 158) (SHc nC nS 158) := ⟨rfl, rfl, (rE_ga rK_I)⟩
theorem rs_r0_159 {nC nS : Int} : rS zt_r0 (SHc nC nS 159) (SHc nC nS 159) := ⟨rfl, rfl, (rE_ga rK_I)⟩
theorem rs_r0_160 {nC nS : Int} : rS zt_r0 (SHc nC nS 160) (SHc nC nS 160) := ⟨rfl, rfl, (rE_ga rK_I)⟩
theorem rs_r0_161 {nC nS : Int} : rS zt_r0 (SHc nC nS 161) (SHc nC nS 161) := ⟨rfl, rfl, (rE_ga rK_I)⟩
theorem rs_r0_162 {nC nS : Int} : rS zt_r0 (SHc nC nS 162) (SHc nC nS 162) := ⟨rfl, rfl, (rE_ga rK_I)⟩
theorem rs_r0_163 {nC nS : Int} : rS zt_r0 (SHc nC nS 163) (SHc nC nS 163) := ⟨rfl, rfl, (rE_ga rK_J)⟩
set_option maxRecDepth 100000 in
theorem rs_r0 {nC nS : Int} : ∀ t u, t ≠ 166 → t ≠ 167 → zt_r0 t = some u → rS zt_r0 (SHc nC nS t) (SHc nC nS u) := by
  intro t u hne hne2 h
  have h := zt_m h
  rcases List.mem_cons.mp h with h | h
  · obtain ⟨rfl, rfl⟩ := Prod.mk.inj h
    exact rs_r0_4
  rcases List.mem_cons.mp h with h | h
  · obtain ⟨rfl, rfl⟩ := Prod.mk.inj h
    exact rs_r0_5
  rcases List.mem_cons.mp h with h | h
  · obtain ⟨rfl, rfl⟩ := Prod.mk.inj h
    exact rs_r0_6
  rcases List.mem_cons.mp h with h | h
  · obtain ⟨rfl, rfl⟩ := Prod.mk.inj h
    exact rs_r0_7
  rcases List.mem_cons.mp h with h | h
  · obtain ⟨rfl, rfl⟩ := Prod.mk.inj h
    exact rs_r0_8
  rcases List.mem_cons.mp h with h | h
  · obtain ⟨rfl, rfl⟩ := Prod.mk.inj h
    exact rs_r0_9
  rcases List.mem_cons.mp h with h | h
  · obtain ⟨rfl, rfl⟩ := Prod.mk.inj h
    exact rs_r0_10
  rcases List.mem_cons.mp h with h | h
  · obtain ⟨rfl, rfl⟩ := Prod.mk.inj h
    exact rs_r0_11
  rcases List.mem_cons.mp h with h | h
  · obtain ⟨rfl, rfl⟩ := Prod.mk.inj h
    exact rs_r0_12
  rcases List.mem_cons.mp h with h | h
  · obtain ⟨rfl, rfl⟩ := Prod.mk.inj h
    exact rs_r0_13
  rcases List.mem_cons.mp h with h | h
  · obtain ⟨rfl, rfl⟩ := Prod.mk.inj h
    exact rs_r0_16
  rcases List.mem_cons.mp h with h | h
  · obtain ⟨rfl, rfl⟩ := Prod.mk.inj h
    exact rs_r0_17
  rcases List.mem_cons.mp h with h | h
  · obtain ⟨rfl, rfl⟩ := Prod.mk.inj h
    exact rs_r0_18
  rcases List.mem_cons.mp h with h | h
  · obtain ⟨rfl, rfl⟩ := Prod.mk.inj h
    exact rs_r0_19
  rcases List.mem_cons.mp h with h | h
  · obtain ⟨rfl, rfl⟩ := Prod.mk.inj h
    exact rs_r0_20
  rcases List.mem_cons.mp h with h | h
  · obtain ⟨rfl, rfl⟩ := Prod.mk.inj h
    exact rs_r0_21
  rcases List.mem_cons.mp h with h | h
  · obtain ⟨rfl, rfl⟩ := Prod.mk.inj h
    exact rs_r0_22
  rcases List.mem_cons.mp h with h | h
  · obtain ⟨rfl, rfl⟩ := Prod.mk.inj h
    exact rs_r0_23
  rcases List.mem_cons.mp h with h | h
  · obtain ⟨rfl, rfl⟩ := Prod.mk.inj h
    exact rs_r0_24
  rcases List.mem_cons.mp h with h | h
  · obtain ⟨rfl, rfl⟩ := Prod.mk.inj h
    exact rs_r0_25
  rcases List.mem_cons.mp h with h | h
  · obtain ⟨rfl, rfl⟩ := Prod.mk.inj h
    exact rs_r0_26
  rcases List.mem_cons.mp h with h | h
  · obtain ⟨rfl, rfl⟩ := Prod.mk.inj h
    exact rs_r0_27
  rcases List.mem_cons.mp h with h | h
  · obtain ⟨rfl, rfl⟩ := Prod.mk.inj h
    exact rs_r0_28
  rcases List.mem_cons.mp h with h | h
  · obtain ⟨rfl, rfl⟩ := Prod.mk.inj h
    exact rs_r0_29
  rcases List.mem_cons.mp h with h | h
  · obtain ⟨rfl, rfl⟩ := Prod.mk.inj h
    exact rs_r0_30
  rcases List.mem_cons.mp h with h | h
  · obtain ⟨rfl, rfl⟩ := Prod.mk.inj h
    exact rs_r0_31
  rcases List.mem_cons.mp h with h | h
  · obtain ⟨rfl, rfl⟩ := Prod.mk.inj h
    exact rs_r0_32
  rcases List.mem_cons.mp h with h | h
  · obtain ⟨rfl, rfl⟩ := Prod.mk.inj h
    exact rs_r0_33
  rcases List.mem_cons.mp h with h | h
  · obtain ⟨rfl, rfl⟩ := Prod.mk.inj h
    exact rs_r0_34
  rcases List.mem_cons.mp h with h | h
  · obtain ⟨rfl, rfl⟩ := Prod.mk.inj h
    exact rs_r0_35
  rcases List.mem_cons.mp h with h | h
  · obtain ⟨rfl, rfl⟩ := Prod.mk.inj h
    exact rs_r0_36
  rcases List.mem_cons.mp h with h | h
  · obtain ⟨rfl, rfl⟩ := Prod.mk.inj h
    exact rs_r0_37
  rcases List.mem_cons.mp h with h | h
  · obtain ⟨rfl, rfl⟩ := Prod.mk.inj h
    exact rs_r0_38
  rcases List.mem_cons.mp h with h | h
  · obtain ⟨rfl, rfl⟩ := Prod.mk.inj h
    exact rs_r0_39
  rcases List.mem_cons.mp h with h | h
  · obtain ⟨rfl, rfl⟩ := Prod.mk.inj h
    exact rs_r0_40
  rcases List.mem_cons.mp h with h | h
  · obtain ⟨rfl, rfl⟩ := Prod.mk.inj h
    exact rs_r0_41
  rcases List.mem_cons.mp h with h | h
  · obtain ⟨rfl, rfl⟩ := Prod.mk.inj h
    exact rs_r0_42
  rcases List.mem_cons.mp h with h | h
  · obtain ⟨rfl, rfl⟩ := Prod.mk.inj h
    exact rs_r0_43
  rcases List.mem_cons.mp h with h | h
  · obtain ⟨rfl, rfl⟩ := Prod.mk.inj h
    exact rs_r0_44
  rcases List.mem_cons.mp h with h | h
  · obtain ⟨rfl, rfl⟩ := Prod.mk.inj h
    exact rs_r0_45
  rcases List.mem_cons.mp h with h | h
  · obtain ⟨rfl, rfl⟩ := Prod.mk.inj h
    exact rs_r0_46
  rcases List.mem_cons.mp h with h | h
  · obtain ⟨rfl, rfl⟩ := Prod.mk.inj h
    exact rs_r0_47
  rcases List.mem_cons.mp h with h | h
  · obtain ⟨rfl, rfl⟩ := Prod.mk.inj h
    exact rs_r0_48
  rcases List.mem_cons.mp h with h | h
  · obtain ⟨rfl, rfl⟩ := Prod.mk.inj h
    exact rs_r0_49
  rcases List.mem_cons.mp h with h | h
  · obtain ⟨rfl, rfl⟩ := Prod.mk.inj h
    exact rs_r0_50
  rcases List.mem_cons.mp h with h | h
  · obtain ⟨rfl, rfl⟩ := Prod.mk.inj h
    exact rs_r0_51
  rcases List.mem_cons.mp h with h | h
  · obtain ⟨rfl, rfl⟩ := Prod.mk.inj h
    exact rs_r0_52
  rcases List.mem_cons.mp h with h | h
  · obtain ⟨rfl, rfl⟩ := Prod.mk.inj h
    exact rs_r0_53
  rcases List.mem_cons.mp h with h | h
  · obtain ⟨rfl, rfl⟩ := Prod.mk.inj h
    exact rs_r0_54
  rcases List.mem_cons.mp h with h | h
  · obtain ⟨rfl, rfl⟩ := Prod.mk.inj h
    exact rs_r0_55
  rcases List.mem_cons.mp h with h | h
  · obtain ⟨rfl, rfl⟩ := Prod.mk.inj h
    exact rs_r0_56
  rcases List.mem_cons.mp h with h | h
  · obtain ⟨rfl, rfl⟩ := Prod.mk.inj h
    exact rs_r0_57
  rcases List.mem_cons.mp h with h | h
  · obtain ⟨rfl, rfl⟩ := Prod.mk.inj h
    exact rs_r0_58
  rcases List.mem_cons.mp h with h | h
  · obtain ⟨rfl, rfl⟩ := Prod.mk.inj h
    exact rs_r0_59
  rcases List.mem_cons.mp h with h | h
  · obtain ⟨rfl, rfl⟩ := Prod.mk.inj h
    exact rs_r0_60
  rcases List.mem_cons.mp h with h | h
  · obtain ⟨rfl, rfl⟩ := Prod.mk.inj h
    exact rs_r0_61
  rcases List.mem_cons.mp h with h | h
  · obtain ⟨rfl, rfl⟩ := Prod.mk.inj h
    exact rs_r0_62
  rcases List.mem_cons.mp h with h | h
  · obtain ⟨rfl, rfl⟩ := Prod.mk.inj h
    exact rs_r0_63
  rcases List.mem_cons.mp h with h | h
  · obtain ⟨rfl, rfl⟩ := Prod.mk.inj h
    exact rs_r0_64
  rcases List.mem_cons.mp h with h | h
  · obtain ⟨rfl, rfl⟩ := Prod.mk.inj h
    exact rs_r0_65
  rcases List.mem_cons.mp h with h | h
  · obtain ⟨rfl, rfl⟩ := Prod.mk.inj h
    exact rs_r0_66
  rcases List.mem_cons.mp h with h | h
  · obtain ⟨rfl, rfl⟩ := Prod.mk.inj h
    exact rs_r0_67
  rcases List.mem_cons.mp h with h | h
  · obtain ⟨rfl, rfl⟩ := Prod.mk.inj h
    exact rs_r0_68
  rcases List.mem_cons.mp h with h | h
  · obtain ⟨rfl, rfl⟩ := Prod.mk.inj h
    exact rs_r0_69
  rcases List.mem_cons.mp h with h | h
  · obtain ⟨rfl, rfl⟩ := Prod.mk.inj h
    exact rs_r0_70
  rcases List.mem_cons.mp h with h | h
  · obtain ⟨rfl, rfl⟩ := Prod.mk.inj h
    exact rs_r0_71
  rcases List.mem_cons.mp h with h | h
  · obtain ⟨rfl, rfl⟩ := Prod.mk.inj h
    exact rs_r0_72
  rcases List.mem_cons.mp h with h | h
  · obtain ⟨rfl, rfl⟩ := Prod.mk.inj h
    exact rs_r0_73
  rcases List.mem_cons.mp h with h | h
  · obtain ⟨rfl, rfl⟩ := Prod.mk.inj h
    exact rs_r0_74
  rcases List.mem_cons.mp h with h | h
  · obtain ⟨rfl, rfl⟩ := Prod.mk.inj h
    exact rs_r0_75
  rcases List.mem_cons.mp h with h | h
  · obtain ⟨rfl, rfl⟩ := Prod.mk.inj h
    exact rs_r0_76
  rcases List.mem_cons.mp h with h | h
  · obtain ⟨rfl, rfl⟩ := Prod.mk.inj h
    exact rs_r0_77
  rcases List.mem_cons.mp h with h | h
  · obtain ⟨rfl, rfl⟩ := Prod.mk.inj h
    exact rs_r0_78
  rcases List.mem_cons.mp h with h | h
  · obtain ⟨rfl, rfl⟩ := Prod.mk.inj h
    exact rs_r0_79
  rcases List.mem_cons.mp h with h | h
  · obtain ⟨rfl, rfl⟩ := Prod.mk.inj h
    exact rs_r0_80
  rcases List.mem_cons.mp h with h | h
  · obtain ⟨rfl, rfl⟩ := Prod.mk.inj h
    exact rs_r0_81
  rcases List.mem_cons.mp h with h | h
  · obtain ⟨rfl, rfl⟩ := Prod.mk.inj h
    exact rs_r0_82
  rcases List.mem_cons.mp h with h | h
  · obtain ⟨rfl, rfl⟩ := Prod.mk.inj h
    exact rs_r0_83
  rcases List.mem_cons.mp h with h | h
  · obtain ⟨rfl, rfl⟩ := Prod.mk.inj h
    exact rs_r0_84
  rcases List.mem_cons.mp h with h | h
  · obtain ⟨rfl, rfl⟩ := Prod.mk.inj h
    exact rs_r0_85
  rcases List.mem_cons.mp h with h | h
  · obtain ⟨rfl, rfl⟩ := Prod.mk.inj h
    exact rs_r0_86
  rcases List.mem_cons.mp h with h | h
  · obtain ⟨rfl, rfl⟩ := Prod.mk.inj h
    exact rs_r0_87
  rcases List.mem_cons.mp h with h | h
  · obtain ⟨rfl, rfl⟩ := Prod.mk.inj h
    exact rs_r0_88
  rcases List.mem_cons.mp h with h | h
  · obtain ⟨rfl, rfl⟩ := Prod.mk.inj h
    exact rs_r0_89
  rcases List.mem_cons.mp h with h | h
  · obtain ⟨rfl, rfl⟩ := Prod.mk.inj h
    exact rs_r0_90
  rcases List.mem_cons.mp h with h | h
  · obtain ⟨rfl, rfl⟩ := Prod.mk.inj h
    exact rs_r0_91
  rcases List.mem_cons.mp h with h | h
  · obtain ⟨rfl, rfl⟩ := Prod.mk.inj h
    exact rs_r0_92
  rcases List.mem_cons.mp h with h | h
  · obtain ⟨rfl, rfl⟩ := Prod.mk.inj h
    exact rs_r0_93
  rcases List.mem_cons.mp h with h | h
  · obtain ⟨rfl, rfl⟩ := Prod.mk.inj h
    exact rs_r0_94
  rcases List.mem_cons.mp h with h | h
  · obtain ⟨rfl, rfl⟩ := Prod.mk.inj h
    exact rs_r0_98
  rcases List.mem_cons.mp h with h | h
  · obtain ⟨rfl, rfl⟩ := Prod.mk.inj h
    exact rs_r0_140
  rcases List.mem_cons.mp h with h | h
  · obtain ⟨rfl, rfl⟩ := Prod.mk.inj h
    exact rs_r0_141
  rcases List.mem_cons.mp h with h | h
  · obtain ⟨rfl, rfl⟩ := Prod.mk.inj h
    exact rs_r0_142
  rcases List.mem_cons.mp h with h | h
  · obtain ⟨rfl, rfl⟩ := Prod.mk.inj h
    exact rs_r0_143
  rcases List.mem_cons.mp h with h | h
  · obtain ⟨rfl, rfl⟩ := Prod.mk.inj h
    exact rs_r0_144
  rcases List.mem_cons.mp h with h | h
  · obtain ⟨rfl, rfl⟩ := Prod.mk.inj h
    exact rs_r0_145
  rcases List.mem_cons.mp h with h | h
  · obtain ⟨rfl, rfl⟩ := Prod.mk.inj h
    exact rs_r0_146
  rcases List.mem_cons.mp h with h | h
  · obtain ⟨rfl, rfl⟩ := Prod.mk.inj h
    exact rs_r0_147
  rcases List.mem_cons.mp h with h | h
  · obtain ⟨rfl, rfl⟩ := Prod.mk.inj h
    exact rs_r0_148
  rcases List.mem_cons.mp h with h | h
  · obtain ⟨rfl, rfl⟩ := Prod.mk.inj h
    exact rs_r0_149
  rcases List.mem_cons.mp h with h | h
  · obtain ⟨rfl, rfl⟩ := Prod.mk.inj h
    exact rs_r0_150
  rcases List.mem_cons.mp h with h | h
  · obtain ⟨rfl, rfl⟩ := Prod.mk.inj h
    exact rs_r0_151
  rcases List.mem_cons.mp h with h | h
  · obtain ⟨rfl, rfl⟩ := Prod.mk.inj h
    exact rs_r0_152
  rcases List.mem_cons.mp h with h | h
  · obtain ⟨rfl, rfl⟩ := Prod.mk.inj h
    exact rs_r0_153
  rcases List.mem_cons.mp h with h | h
  · obtain ⟨rfl, rfl⟩ := Prod.mk.inj h
    exact rs_r0_154
  rcases List.mem_cons.mp h with h | h
  · obtain ⟨rfl, rfl⟩ := Prod.mk.inj h
    exact rs_r0_155
  rcases List.mem_cons.mp h with h | h
  · obtain ⟨rfl, rfl⟩ := Prod.mk.inj h
    exact rs_r0_156
  rcases List.mem_cons.mp h with h | h
  · obtain ⟨rfl, rfl⟩ := Prod.mk.inj h
    exact rs_r0_157
  rcases List.mem_cons.mp h with h | h
  · obtain ⟨rfl, rfl⟩ := Prod.mk.inj h
    exact rs_r0_158
  rcases List.mem_cons.mp h with h | h
  · obtain ⟨rfl, rfl⟩ := Prod.mk.inj h
    exact rs_r0_159
  rcases List.mem_cons.mp h with h | h
  · obtain ⟨rfl, rfl⟩ := Prod.mk.inj h
    exact rs_r0_160
  rcases List.mem_cons.mp h with h | h
  · obtain ⟨rfl, rfl⟩ := Prod.mk.inj h
    exact rs_r0_161
  rcases List.mem_cons.mp h with h | h
  · obtain ⟨rfl, rfl⟩ := Prod.mk.inj h
    exact rs_r0_162
  rcases List.mem_cons.mp h with h | h
  · obtain ⟨rfl, rfl⟩ := Prod.mk.inj h
    exact rs_r0_163
  rcases List.mem_cons.mp h with h | h
  · obtain ⟨rfl, rfl⟩ := Prod.mk.inj h
    exact absurd rfl hne
  rcases List.mem_cons.mp h with h | h
  · obtain ⟨rfl, rfl⟩ := Prod.mk.inj h
    exact absurd rfl hne2
  exact absurd h List.not_mem_nil
def ZL_rF : List (Nat × Nat) := ((4, 4) :: (5, 5) :: (6, 6) :: (7, 152) :: (8, 8) :: (9, 9) :: (10, 10) :: (11, 11) :: (12, 12) :: (13, 13) :: (16, 16) :: (17, 17) :: (18, 18) :: (19, 19) :: (20, 20) :: (21, 21) :: (22, 22) :: (23, 23) :: (24, 24) :: (25, 25) :: (26, 26) :: (27, 27) :: (28, 28) :: (29, 29) :: (30, 30) :: (31, 31) :: (32, 32) :: (33, 33) :: (34, 34) :: (35, 35) :: (36, 36) :: (37, 37) :: (38, 38) :: (39, 39) :: (40, 153) :: (41, 154) :: (42, 155) :: (43, 156) :: (44, 157) :: (45, 158) :: (46, 159) :: (47, 160) :: (48, 161) :: (49, 162) :: (50, 163) :: (51, 51) :: (52, 52) :: (53, 53) :: (54, 54) :: (55, 55) :: (56, 56) :: (57, 57) :: (58, 58) :: (59, 59) :: (60, 60) :: (61, 61) :: (62, 62) :: (63, 63) :: (64, 64) :: (65, 65) :: (66, 66) :: (67, 67) :: (68, 68) :: (69, 69) :: (70, 70) :: (71, 71) :: (72, 72) :: (73, 73) :: (74, 74) :: (75, 75) :: (76, 76) :: (77, 77) :: (78, 78) :: (79, 79) :: (80, 80) :: (81, 81) :: (82, 82) :: (83, 83) :: (84, 84) :: (85, 85) :: (86, 86) :: (87, 87) :: (88, 88) :: (89, 89) :: (90, 90) :: (91, 91) :: (92, 92) :: (93, 93) :: (94, 94) :: (98, 98) :: (140, 140) :: (141, 141) :: (142, 142) :: (143, 143) :: (144, 144) :: (145, 145) :: (146, 146) :: (147, 147) :: (148, 148) :: (149, 149) :: (150, 150) :: (151, 151) :: (152, 7) :: (153, 40) :: (154, 41) :: (155, 42) :: (156, 43) :: (157, 44) :: (158, 45) :: (159, 46) :: (160, 47) :: (161, 48) :: (162, 49) :: (163, 50) :: (166, 3) :: (167, 14) :: [])
def zt_rF : Nat → Option Nat := zt ZL_rF
theorem rs_rF_4 {nC nS : Int} : rS zt_rF (SHc nC nS 4) (SHc nC nS 4) := ⟨rfl, rfl, (rE_cons rK_I (rE_cons rK_I (rE_cons rK_I (rE_cons rK_I (rE_cons rK_I (rE_cons rK_I (rE_cons rK_I (rE_cons rK_I rE_nil))))))))⟩
theorem rs_rF_5 {nC nS : Int} : rS zt_rF (SHc nC nS 5) (SHc nC nS 5) := ⟨rfl, rfl, (rE_cons (rK_R (by decide)) (rE_cons (rK_R (by decide)) (rE_cons (rK_R (by decide)) (rE_cons (rK_R (by decide)) (rE_cons (rK_R (by decide)) (rE_cons (rK_R (by decide)) (rE_cons (rK_R (by decide)) (rE_cons (rK_R (by decide)) (rE_cons (rK_R (by decide)) (rE_cons (rK_R (by decide)) (rE_cons (rK_R (by decide)) (rE_cons rK_I (rE_cons rK_I (rE_cons rK_I (rE_cons rK_I rE_nil)))))))))))))))⟩
theorem rs_rF_6 {nC nS : Int} : rS zt_rF (SHc nC nS 6) (SHc nC nS 6) := ⟨rfl, rfl, (rE_cons (rK_R (by decide)) (rE_cons (rK_R (by decide)) (rE_cons (rK_R (by decide)) (rE_cons rK_I (rE_cons rK_I rE_nil)))))⟩
theorem rs_rF_7 {nC nS : Int} : rS zt_rF (SHc nC nS 7) (SHc nC nS 152) := ⟨rfl, rfl, (rE_cons (rK_R (by decide)) (rE_cons (rK_R (by decide)) (rE_cons (rK_R (by decide)) (rE_cons (rK_R (by decide)) (rE_cons (rK_R (by decide)) (rE_cons (rK_R (by decide)) (rE_cons (rK_R (by decide)) (rE_cons (rK_R (by decide)) (rE_cons (rK_R (by decide)) (rE_cons (rK_R (by decide)) (rE_cons (rK_R (by decide)) (rE_cons rK_I (rE_cons rK_I (rE_cons rK_I rE_nil))))))))))))))⟩
theorem rs_rF_8 {nC nS : Int} : rS zt_rF (SHc nC nS 8) (SHc nC nS 8) := ⟨rfl, rfl, (rE_cons (rK_R (by decide)) (rE_cons (rK_R (by decide)) (rE_cons (rK_R (by decide)) (rE_cons (rK_R (by decide)) (rE_cons (rK_R (by decide)) (rE_cons (rK_R (by decide)) (rE_cons (rK_R (by decide)) (rE_cons (rK_R (by decide)) (rE_cons (rK_R (by decide)) (rE_cons (rK_R (by decide)) (rE_cons (rK_R (by decide)) (rE_cons (rK_R (by decide)) (rE_cons rK_I (rE_cons rK_I (rE_cons rK_I (rE_cons rK_I (rE_cons rK_I rE_nil)))))))))))))))))⟩
theorem rs_rF_9 {nC nS : Int} : rS zt_rF (SHc nC nS 9) (SHc nC nS 9) := ⟨rfl, rfl, (rE_cons (rK_R (by decide)) (rE_cons (rK_R (by decide)) (rE_cons rK_I (rE_cons rK_I rE_nil))))⟩
theorem rs_rF_10 {nC nS : Int} : rS zt_rF (SHc nC nS 10) (SHc nC nS 10) := ⟨rfl, rfl, (rE_cons rK_I (rE_cons rK_I (rE_cons rK_I (rE_cons rK_I (rE_cons rK_I (rE_cons rK_I (rE_cons rK_I (rE_cons rK_I (rE_cons rK_I (rE_cons rK_I (rE_cons rK_I (rE_cons rK_I rE_nil))))))))))))⟩
theorem rs_rF_11 {nC nS : Int} : rS zt_rF (SHc nC nS 11) (SHc nC nS 11) := ⟨rfl, rfl, (rE_cons (rK_R (by decide)) (rE_cons (rK_R (by decide)) (rE_cons (rK_R (by decide)) (rE_cons (rK_R (by decide)) (rE_cons (rK_R (by decide)) (rE_cons (rK_R (by decide)) (rE_cons rK_I rE_nil)))))))⟩
theorem rs_rF_12 {nC nS : Int} : rS zt_rF (SHc nC nS 12) (SHc nC nS 12) := ⟨rfl, rfl, (rE_cons (rK_R (by decide)) (rE_cons (rK_R (by decide)) (rE_cons rK_I rE_nil)))⟩
theorem rs_rF_13 {nC nS : Int} : rS zt_rF (SHc nC nS 13) (SHc nC nS 13) := ⟨rfl, rfl, (rE_cons (rK_R (by decide)) (rE_cons (rK_R (by decide)) (rE_cons rK_I (rE_cons rK_I (rE_cons rK_I (rE_cons rK_I (rE_cons rK_I (rE_cons rK_I (rE_cons rK_I (rE_cons rK_I (rE_cons rK_I (rE_cons rK_I rE_nil))))))))))))⟩
theorem rs_rF_16 {nC nS : Int} : rS zt_rF (SHc nC nS 16) (SHc nC nS 16) := ⟨rfl, rfl, (rE_ga rK_I)⟩
theorem rs_rF_17 {nC nS : Int} : rS zt_rF (SHc nC nS 17) (SHc nC nS 17) := ⟨rfl, rfl, (rE_gnb (by decide))⟩
theorem rs_rF_18 {nC nS : Int} : rS zt_rF (SHc nC nS 18) (SHc nC nS 18) := ⟨rfl, rfl, (rE_ga (rK_R (by decide)))⟩
theorem rs_rF_19 {nC nS : Int} : rS zt_rF (SHc nC nS 19) (SHc nC nS 19) := ⟨rfl, rfl, (rE_ga rK_I)⟩
theorem rs_rF_20 {nC nS : Int} : rS zt_rF (SHc nC nS 20) (SHc nC nS 20) := ⟨rfl, rfl, (rE_ga rK_I)⟩
theorem rs_rF_21 {nC nS : Int} : rS zt_rF (SHc nC nS 21) (SHc nC nS 21) := ⟨rfl, rfl, (rE_ga rK_I)⟩
theorem rs_rF_22 {nC nS : Int} : rS zt_rF (SHc nC nS 22) (SHc nC nS 22) := ⟨rfl, rfl, (rE_ga rK_I)⟩
theorem rs_rF_23 {nC nS : Int} : rS zt_rF (SHc nC nS 23) (SHc nC nS 23) := ⟨rfl, rfl, (rE_ga rK_I)⟩
theorem rs_rF_24 {nC nS : Int} : rS zt_rF (SHc nC nS 24) (SHc nC nS 24) := ⟨rfl, rfl, (rE_ga rK_I)⟩
theorem rs_rF_25 {nC nS : Int} : rS zt_rF (SHc nC nS 25) (SHc nC nS 25) := ⟨rfl, rfl, (rE_ga rK_I)⟩
theorem rs_rF_26 {nC nS : Int} : rS zt_rF (SHc nC nS 26) (SHc nC nS 26) := ⟨rfl, rfl, (rE_ga rK_I)⟩
theorem rs_rF_27 {nC nS : Int} : rS zt_rF (SHc nC nS 27) (SHc nC nS 27) := ⟨rfl, rfl, (rE_ga rK_I)⟩
theorem rs_rF_28 {nC nS : Int} : rS zt_rF (SHc nC nS 28) (SHc nC nS 28) := ⟨rfl, rfl, (rE_ga rK_I)⟩
theorem rs_rF_29 {nC nS : Int} : rS zt_rF (SHc nC nS 29) (SHc nC nS 29) := ⟨rfl, rfl, (rE_ga rK_I)⟩
theorem rs_rF_30 {nC nS : Int} : rS zt_rF (SHc nC nS 30) (SHc nC nS 30) := ⟨rfl, rfl, (rE_ga rK_I)⟩
theorem rs_rF_31 {nC nS : Int} : rS zt_rF (SHc nC nS 31) (SHc nC nS 31) := ⟨rfl, rfl, (rE_ga rK_I)⟩
theorem rs_rF_32 {nC nS : Int} : rS zt_rF (SHc nC nS 32) (SHc nC nS 32) := ⟨rfl, rfl, (rE_ga rK_I)⟩
theorem rs_rF_33 {nC nS : Int} : rS zt_rF (SHc nC nS 33) (SHc nC nS 33) := ⟨rfl, rfl, (rE_ga rK_I)⟩
theorem rs_rF_34 {nC nS : Int} : rS zt_rF (SHc nC nS 34) (SHc nC nS 34) := ⟨rfl, rfl, (rE_ga rK_I)⟩
theorem rs_rF_35 {nC nS : Int} : rS zt_rF (SHc nC nS 35) (SHc nC nS 35) := ⟨rfl, rfl, (rE_ga rK_I)⟩
theorem rs_rF_36 {nC nS : Int} : rS zt_rF (SHc nC nS 36) (SHc nC nS 36) := ⟨rfl, rfl, (rE_ga rK_I)⟩
theorem rs_rF_37 {nC nS : Int} : rS zt_rF (SHc nC nS 37) (SHc nC nS 37) := ⟨rfl, rfl, (rE_ga rK_I)⟩
theorem rs_rF_38 {nC nS : Int} : rS zt_rF (SHc nC nS 38) (SHc nC nS 38) := ⟨rfl, rfl, (rE_ga rK_I)⟩
theorem rs_rF_39 {nC nS : Int} : rS zt_rF (SHc nC nS 39) (SHc nC nS 39) := ⟨rfl, rfl, (rE_ga rK_I)⟩
theorem rs_rF_40 {nC nS : Int} : rS zt_rF (SHc nC nS 40) (SHc nC nS 153) := ⟨rfl, rfl, (rE_ga rK_I)⟩
theorem rs_rF_41 {nC nS : Int} : rS zt_rF (SHc nC nS 41) (SHc nC nS 154) := ⟨rfl, rfl, (rE_ga rK_I)⟩
theorem rs_rF_42 {nC nS : Int} : rS zt_rF (SHc nC nS 42) (SHc nC nS 155) := ⟨rfl, rfl, (rE_ga rK_I)⟩
theorem rs_rF_43 {nC nS : Int} : rS zt_rF (SHc nC nS 43) (SHc nC nS 156) := ⟨rfl, rfl, (rE_ga rK_I)⟩
theorem rs_rF_44 {nC nS : Int} : rS zt_rF (SHc nC nS 44) (SHc nC nS 157) := ⟨rfl, rfl, (rE_ga rK_I)⟩
theorem rs_rF_45 {nC nS : Int} : rS zt_rF (SHc nC nS 45) (SHc nC nS 158) := ⟨rfl, rfl, (rE_ga rK_I)⟩
theorem rs_rF_46 {nC nS : Int} : rS zt_rF (SHc nC nS 46) (SHc nC nS 159) := ⟨rfl, rfl, (rE_ga rK_I)⟩
theorem rs_rF_47 {nC nS : Int} : rS zt_rF (SHc nC nS 47) (SHc nC nS 160) := ⟨rfl, rfl, (rE_ga rK_I)⟩
theorem rs_rF_48 {nC nS : Int} : rS zt_rF (SHc nC nS 48) (SHc nC nS 161) := ⟨rfl, rfl, (rE_ga rK_I)⟩
theorem rs_rF_49 {nC nS : Int} : rS zt_rF (SHc nC nS 49) (SHc nC nS 162) := ⟨rfl, rfl, (rE_ga rK_I)⟩
theorem rs_rF_50 {nC nS : Int} : rS zt_rF (SHc nC nS 50) (SHc nC nS 163) := ⟨rfl, rfl, (rE_ga rK_J)⟩
theorem rs_rF_51 {nC nS : Int} : rS zt_rF (SHc nC nS 51) (SHc nC nS 51) := ⟨rfl, rfl, (rE_gnb (by decide))⟩
theorem rs_rF_52 {nC nS : Int} : rS zt_rF (SHc nC nS 52) (SHc nC nS 52) := ⟨rfl, rfl, (rE_ga rK_I)⟩
theorem rs_rF_53 {nC nS : Int} : rS zt_rF (SHc nC nS 53) (SHc nC nS 53) := ⟨rfl, rfl, (rE_ga rK_I)⟩
theorem rs_rF_54 {nC nS : Int} : rS zt_rF (SHc nC nS 54) (SHc nC nS 54) := ⟨rfl, rfl, (rE_ga rK_I)⟩
theorem rs_rF_55 {nC nS : Int} : rS zt_rF (SHc nC nS 55) (SHc nC nS 55) := ⟨rfl, rfl, (rE_ga rK_I)⟩
theorem rs_rF_56 {nC nS : Int} : rS zt_rF (SHc nC nS 56) (SHc nC nS 56) := ⟨rfl, rfl, (rE_ga rK_J)⟩
theorem rs_rF_57 {nC nS : Int} : rS zt_rF (SHc nC nS 57) (SHc nC nS 57) := ⟨rfl, rfl, (rE_ga rK_I)⟩
theorem rs_rF_58 {nC nS : Int} : rS zt_rF (SHc nC nS 58) (SHc nC nS 58) := ⟨rfl, rfl, (rE_ga rK_I)⟩
theorem rs_rF_59 {nC nS : Int} : rS zt_rF (SHc nC nS 59) (SHc nC nS 59) := ⟨rfl, rfl, (rE_ga rK_I)⟩
theorem rs_rF_60 {nC nS : Int} : rS zt_rF (SHc nC nS 60) (SHc nC nS 60) := ⟨rfl, rfl, (rE_ga rK_I)⟩
theorem rs_rF_61 {nC nS : Int} : rS zt_rF (SHc nC nS 61) (SHc nC nS 61) := ⟨rfl, rfl, (rE_ga rK_I)⟩
theorem rs_rF_62 {nC nS : Int} : rS zt_rF (SHc nC nS 62) (SHc nC nS 62) := ⟨rfl, rfl, (rE_ga rK_I)⟩
theorem rs_rF_63 {nC nS : Int} : rS zt_rF (SHc nC nS 63) (SHc nC nS 63) := ⟨rfl, rfl, (rE_ga rK_I)⟩
theorem rs_rF_64 {nC nS : Int} : rS zt_rF (SHc nC nS 64) (SHc nC nS 64) := ⟨rfl, rfl, (rE_ga rK_I)⟩
theorem rs_rF_65 {nC nS : Int} : rS zt_rF (SHc nC nS 65) (SHc nC nS 65) := ⟨rfl, rfl, (rE_ga rK_I)⟩
theorem rs_rF_66 {nC nS : Int} : rS zt_rF (SHc nC nS 66) (SHc nC nS 66) := ⟨rfl, rfl, (rE_ga rK_I)⟩
theorem rs_rF_67 {nC nS : Int} : rS zt_rF (SHc nC nS 67) (SHc nC nS 67) := ⟨rfl, rfl, (rE_ga rK_I)⟩
theorem rs_rF_68 {nC nS : Int} : rS zt_rF (SHc nC nS 68) (SHc nC nS 68) := ⟨rfl, rfl, (rE_ga rK_I)⟩
theorem rs_rF_69 {nC nS : Int} : rS zt_rF (SHc nC nS 69) (SHc nC nS 69) := ⟨rfl, rfl, (rE_ga rK_I)⟩
theorem rs_rF_70 {nC nS : Int} : rS zt_rF (SHc nC nS 70) (SHc nC nS 70) := ⟨rfl, rfl, (rE_ga (rK_R (by decide)))⟩
theorem rs_rF_71 {nC nS : Int} : rS zt_rF (SHc nC nS 71) (SHc nC nS 71) := ⟨rfl, rfl, (rE_ga rK_I)⟩
theorem rs_rF_72 {nC nS : Int} : rS zt_rF (SHc nC nS 72) (SHc nC nS 72) := ⟨rfl, rfl, (rE_ga rK_I)⟩
theorem rs_rF_73 {nC nS : Int} : rS zt_rF (SHc nC nS 73) (SHc nC nS 73) := ⟨rfl, rfl, (rE_ga rK_I)⟩
theorem rs_rF_74 {nC nS : Int} : rS zt_rF (SHc nC nS 74) (SHc nC nS 74) := ⟨rfl, rfl, (rE_ga rK_I)⟩
theorem rs_rF_75 {nC nS : Int} : rS zt_rF (SHc nC nS 75) (SHc nC nS 75) := ⟨rfl, rfl, (rE_ga rK_I)⟩
theorem rs_rF_76 {nC nS : Int} : rS zt_rF (SHc nC nS 76) (SHc nC nS 76) := ⟨rfl, rfl, (rE_ga rK_I)⟩
theorem rs_rF_77 {nC nS : Int} : rS zt_rF (SHc nC nS 77) (SHc nC nS 77) := ⟨rfl, rfl, (rE_ga rK_I)⟩
theorem rs_rF_78 {nC nS : Int} : rS zt_rF (SHc nC nS 78) (SHc nC nS 78) := ⟨rfl, rfl, (rE_ga rK_I)⟩
theorem rs_rF_79 {nC nS : Int} : rS zt_rF (SHc nC nS 79) (SHc nC nS 79) := ⟨rfl, rfl, (rE_ga rK_I)⟩
theorem rs_rF_80 {nC nS : Int} : rS zt_rF (SHc nC nS 80) (SHc nC nS 80) := ⟨rfl, rfl, (rE_ga rK_I)⟩
theorem rs_rF_81 {nC nS : Int} : rS zt_rF (SHc nC nS 81) (SHc nC nS 81) := ⟨rfl, rfl, (rE_ga rK_I)⟩
theorem rs_rF_82 {nC nS : Int} : rS zt_rF (SHc nC nS 82) (SHc nC nS 82) := ⟨rfl, rfl, (rE_ga rK_I)⟩
theorem rs_rF_83 {nC nS : Int} : rS zt_rF (SHc nC nS 83) (SHc nC nS 83) := ⟨rfl, rfl, (rE_ga rK_I)⟩
theorem rs_rF_84 {nC nS : Int} : rS zt_rF (SHc nC nS 84) (SHc nC nS 84) := ⟨rfl, rfl, (rE_ga rK_I)⟩
theorem rs_rF_85 {nC nS : Int} : rS zt_rF (SHc nC nS 85) (SHc nC nS 85) := ⟨rfl, rfl, (rE_ga rK_I)⟩
theorem rs_rF_86 {nC nS : Int} : rS zt_rF (SHc nC nS 86) (SHc nC nS 86) := ⟨rfl, rfl, (rE_ga rK_I)⟩
theorem rs_rF_87 {nC nS : Int} : rS zt_rF (SHc nC nS 87) (SHc nC nS 87) := ⟨rfl, rfl, (rE_ga rK_I)⟩
theorem rs_rF_88 {nC nS : Int} : rS zt_rF (SHc nC nS 88) (SHc nC nS 88) := ⟨rfl, rfl, (rE_ga rK_I)⟩
theorem rs_rF_89 {nC nS : Int} : rS zt_rF (SHc nC nS 89) (SHc nC nS 89) := ⟨rfl, rfl, (rE_ga rK_I)⟩
theorem rs_rF_90 {nC nS : Int} : rS zt_rF (SHc nC nS 90) (SHc nC nS 90) := ⟨rfl, rfl, (rE_cons (rK_R (by decide)) (rE_cons (rK_R (by decide)) (rE_cons (rK_R (by decide)) (rE_cons rK_I (rE_cons rK_I rE_nil)))))⟩
theorem rs_rF_91 {nC nS : Int} : rS zt_rF (SHc nC nS 91) (SHc nC nS 91) := ⟨rfl, rfl, (rE_cons (rK_R (by decide)) (rE_cons (rK_R (by decide)) (rE_cons (rK_R (by decide)) (rE_cons (rK_R (by decide)) (rE_cons (rK_R (by decide)) (rE_cons (rK_R (by decide)) (rE_cons rK_I rE_nil)))))))⟩
theorem rs_rF_92 {nC nS : Int} : rS zt_rF (SHc nC nS 92) (SHc nC nS 92) := ⟨rfl, rfl, (rE_cons (rK_R (by decide)) (rE_cons (rK_R (by decide)) (rE_cons rK_I rE_nil)))⟩
theorem rs_rF_93 {nC nS : Int} : rS zt_rF (SHc nC nS 93) (SHc nC nS 93) := ⟨rfl, rfl, (rE_cons (rK_R (by decide)) (rE_cons (rK_R (by decide)) (rE_cons (rK_R (by decide)) (rE_cons (rK_R (by decide)) (rE_cons (rK_R (by decide)) (rE_cons (rK_R (by decide)) (rE_cons (rK_R (by decide)) (rE_cons (rK_R (by decide)) (rE_cons (rK_R (by decide)) (rE_cons (rK_R (by decide)) (rE_cons (rK_R (by decide)) (rE_cons rK_I (rE_cons rK_I (rE_cons rK_I (rE_cons rK_I rE_nil)))))))))))))))⟩
theorem rs_rF_94 {nC nS : Int} : rS zt_rF (SHc nC nS 94) (SHc nC nS 94) := ⟨rfl, rfl, (rE_cons (rK_R (by decide)) (rE_cons (rK_R (by decide)) (rE_cons rK_I (rE_cons rK_I (rE_cons rK_I (rE_cons rK_I (rE_cons rK_I (rE_cons rK_I (rE_cons rK_I (rE_cons rK_I (rE_cons rK_I (rE_cons rK_I rE_nil))))))))))))⟩
theorem rs_rF_98 {nC nS : Int} : rS zt_rF (SHc nC nS 98) (SHc nC nS 98) := ⟨rfl, rfl, (rE_ga rK_J)⟩
theorem rs_rF_140 {nC nS : Int} : rS zt_rF (SHc nC nS 140) (SHc nC nS 140) := ⟨rfl, rfl, (rE_cons (rK_R (by decide)) (rE_cons (rK_R (by decide)) (rE_cons (rK_R (by decide)) (rE_cons (rK_R (by decide)) (rE_cons (rK_R (by decide)) (rE_cons (rK_R (by decide)) (rE_cons (rK_R (by decide)) (rE_cons (rK_R (by decide)) (rE_cons (rK_R (by decide)) (rE_cons (rK_R (by decide)) (rE_cons (rK_R (by decide)) (rE_cons rK_I (rE_cons rK_I (rE_cons rK_I rE_nil))))))))))))))⟩
theorem rs_rF_141 {nC nS : Int} : rS zt_rF (SHc nC nS 141) (SHc nC nS 141) := ⟨rfl, rfl, (rE_ga rK_I)⟩
theorem rs_rF_142 {nC nS : Int} : rS zt_rF (SHc nC nS 142) (SHc nC nS 142) := ⟨rfl, rfl, (rE_ga rK_I)⟩
theorem rs_rF_143 {nC nS : Int} : rS zt_rF (SHc nC nS 143) (SHc nC nS 143) := ⟨rfl, rfl, (rE_ga rK_I)⟩
theorem rs_rF_144 {nC nS : Int} : rS zt_rF (SHc nC nS 144) (SHc nC nS 144) := ⟨rfl, rfl, (rE_ga rK_I)⟩
theorem rs_rF_145 {nC nS : Int} : rS zt_rF (SHc nC nS 145) (SHc nC nS 145) := ⟨rfl, rfl, (rE_ga rK_I)⟩
theorem rs_rF_146 {nC nS : Int} : rS zt_rF (SHc nC nS 146) (SHc nC nS 146) := ⟨rfl, rfl, (rE_ga rK_I)⟩
theorem rs_rF_147 {nC nS : Int} : rS zt_rF (SHc nC nS 147) (SHc nC nS 147) := ⟨rfl, rfl, (rE_ga rK_I)⟩
theorem rs_rF_148 {nC nS : Int} : rS zt_rF (SHc nC nS 148) (SHc nC nS 148) := ⟨rfl, rfl, (rE_ga rK_I)⟩
theorem rs_rF_149 {nC nS : Int} : rS zt_rF (SHc nC nS 149) (SHc nC nS 149) := ⟨rfl, rfl, (rE_ga rK_I)⟩
theorem rs_rF_150 {nC nS : Int} : rS zt_rF (SHc nC nS 150) (SHc nC nS 150) := ⟨rfl, rfl, (rE_ga rK_I)⟩
theorem rs_rF_151 {nC nS : Int} : rS zt_rF (SHc nC nS 151) (SHc nC nS 151) := ⟨rfl, rfl, (rE_ga rK_J)⟩
theorem rs_rF_152 {nC nS : Int} : rS zt_rF (SHc nC nS 152) (SHc nC nS 7) := ⟨rfl, rfl, (rE_cons (rK_R (by decide)) (rE_cons (rK_R (by decide)) (rE_cons (rK_R (by decide)) (rE_cons (rK_R (by decide)) (rE_cons (rK_R (by decide)) (rE_cons (rK_R (by decide)) (rE_cons (rK_R (by decide)) (rE_cons (rK_R (by decide)) (rE_cons (rK_R (by decide)) (rE_cons (rK_R (by decide)) (rE_cons (rK_R (by decide)) (rE_cons rK_I (rE_cons rK_I (rE_cons rK_I rE_nil))))))))))))))⟩
theorem rs_rF_153 {nC nS : Int} : rS zt_rF (SHc nC nS 153) (SHc nC nS 40) := ⟨rfl, rfl, (rE_ga rK_I)⟩
theorem rs_rF_154 {nC nS : Int} : rS zt_rF (SHc nC nS 154) (SHc nC nS 41) := ⟨rfl, rfl, (rE_ga rK_I)⟩
theorem rs_rF_155 {nC nS : Int} : rS zt_rF (SHc nC nS 155) (SHc nC nS 42) := ⟨rfl, rfl, (rE_ga rK_I)⟩
theorem rs_rF_156 {nC nS : Int} : rS zt_rF (SHc nC nS 156) (SHc nC nS 43) := ⟨rfl, rfl, (rE_ga rK_I)⟩
theorem rs_rF_157 {nC nS : Int} : rS zt_rF (SHc nC nS 157) (SHc nC nS 44) := ⟨rfl, rfl, (rE_ga rK_I)⟩
theorem rs_rF_158 {nC nS : Int} : rS zt_rF (SHc nC nS 158) (SHc nC nS 45) := ⟨rfl, rfl, (rE_ga rK_I)⟩
theorem rs_rF_159 {nC nS : Int} : rS zt_rF (SHc nC nS 159) (SHc nC nS 46) := ⟨rfl, rfl, (rE_ga rK_I)⟩
theorem rs_rF_160 {nC nS : Int} : rS zt_rF (SHc nC nS 160) (SHc nC nS 47) := ⟨rfl, rfl, (rE_ga rK_I)⟩
theorem rs_rF_161 {nC nS : Int} : rS zt_rF (SHc nC nS 161) (SHc nC nS 48) := ⟨rfl, rfl, (rE_ga rK_I)⟩
theorem rs_rF_162 {nC nS : Int} : rS zt_rF (SHc nC nS 162) (SHc nC nS 49) := ⟨rfl, rfl, (rE_ga rK_I)⟩
theorem rs_rF_163 {nC nS : Int} : rS zt_rF (SHc nC nS 163) (SHc nC nS 50) := ⟨rfl, rfl, (rE_ga rK_J)⟩
set_option maxRecDepth 100000 in
theorem rs_rF {nC nS : Int} : ∀ t u, t ≠ 166 → t ≠ 167 → zt_rF t = some u → rS zt_rF (SHc nC nS t) (SHc nC nS u) := by
  intro t u hne hne2 h
  have h := zt_m h
  rcases List.mem_cons.mp h with h | h
  · obtain ⟨rfl, rfl⟩ := Prod.mk.inj h
    exact rs_rF_4
  rcases List.mem_cons.mp h with h | h
  · obtain ⟨rfl, rfl⟩ := Prod.mk.inj h
    exact rs_rF_5
  rcases List.mem_cons.mp h with h | h
  · obtain ⟨rfl, rfl⟩ := Prod.mk.inj h
    exact rs_rF_6
  rcases List.mem_cons.mp h with h | h
  · obtain ⟨rfl, rfl⟩ := Prod.mk.inj h
    exact rs_rF_7
  rcases List.mem_cons.mp h with h | h
  · obtain ⟨rfl, rfl⟩ := Prod.mk.inj h
    exact rs_rF_8
  rcases List.mem_cons.mp h with h | h
  · obtain ⟨rfl, rfl⟩ := Prod.mk.inj h
    exact rs_rF_9
  rcases List.mem_cons.mp h with h | h
  · obtain ⟨rfl, rfl⟩ := Prod.mk.inj h
    exact rs_rF_10
  rcases List.mem_cons.mp h with h | h
  · obtain ⟨rfl, rfl⟩ := Prod.mk.inj h
    exact rs_rF_11
  rcases List.mem_cons.mp h with h | h
  · obtain ⟨rfl, rfl⟩ := Prod.mk.inj h
    exact rs_rF_12
  rcases List.mem_cons.mp h with h | h
  · obtain ⟨rfl, rfl⟩ := Prod.mk.inj h
    exact rs_rF_13
  rcases List.mem_cons.mp h with h | h
  · obtain ⟨rfl, rfl⟩ := Prod.mk.inj h
    exact rs_rF_16
  rcases List.mem_cons.mp h with h | h
  · obtain ⟨rfl, rfl⟩ := Prod.mk.inj h
    exact rs_rF_17
  rcases List.mem_cons.mp h with h | h
  · obtain ⟨rfl, rfl⟩ := Prod.mk.inj h
    exact rs_rF_18
  rcases List.mem_cons.mp h with h | h
  · obtain ⟨rfl, rfl⟩ := Prod.mk.inj h
    exact rs_rF_19
  rcases List.mem_cons.mp h with h | h
  · obtain ⟨rfl, rfl⟩ := Prod.mk.inj h
    exact rs_rF_20
  rcases List.mem_cons.mp h with h | h
  · obtain ⟨rfl, rfl⟩ := Prod.mk.inj h
    exact rs_rF_21
  rcases List.mem_cons.mp h with h | h
  · obtain ⟨rfl, rfl⟩ := Prod.mk.inj h
    exact rs_rF_22
  rcases List.mem_cons.mp h with h | h
  · obtain ⟨rfl, rfl⟩ := Prod.mk.inj h
    exact rs_rF_23
  rcases List.mem_cons.mp h with h | h
  · obtain ⟨rfl, rfl⟩ := Prod.mk.inj h
    exact rs_rF_24
  rcases List.mem_cons.mp h with h | h
  · obtain ⟨rfl, rfl⟩ := Prod.mk.inj h
    exact rs_rF_25
  rcases List.mem_cons.mp h with h | h
  · obtain ⟨rfl, rfl⟩ := Prod.mk.inj h
    exact rs_rF_26
  rcases List.mem_cons.mp h with h | h
  · obtain ⟨rfl, rfl⟩ := Prod.mk.inj h
    exact rs_rF_27
  rcases List.mem_cons.mp h with h | h
  · obtain ⟨rfl, rfl⟩ := Prod.mk.inj h
    exact rs_rF_28
  rcases List.mem_cons.mp h with h | h
  · obtain ⟨rfl, rfl⟩ := Prod.mk.inj h
    exact rs_rF_29
  rcases List.mem_cons.mp h with h | h
  · obtain ⟨rfl, rfl⟩ := Prod.mk.inj h
    exact rs_rF_30
  rcases List.mem_cons.mp h with h | h
  · obtain ⟨rfl, rfl⟩ := Prod.mk.inj h
    exact rs_rF_31
  rcases List.mem_cons.mp h with h | h
  · obtain ⟨rfl, rfl⟩ := Prod.mk.inj h
    exact rs_rF_32
  rcases List.mem_cons.mp h with h | h
  · obtain ⟨rfl, rfl⟩ := Prod.mk.inj h
    exact rs_rF_33
  rcases List.mem_cons.mp h with h | h
  · obtain ⟨rfl, rfl⟩ := Prod.mk.inj h
    exact rs_rF_34
  rcases List.mem_cons.mp h with h | h
  · obtain ⟨rfl, rfl⟩ := Prod.mk.inj h
    exact rs_rF_35
  rcases List.mem_cons.mp h with h | h
  · obtain ⟨rfl, rfl⟩ := Prod.mk.inj h
    exact rs_rF_36
  rcases List.mem_cons.mp h with h | h
  · obtain ⟨rfl, rfl⟩ := Prod.mk.inj h
    exact rs_rF_37
  rcases List.mem_cons.mp h with h | h
  · obtain ⟨rfl, rfl⟩ := Prod.mk.inj h
    exact rs_rF_38
  rcases List.mem_cons.mp h with h | h
  · obtain ⟨rfl, rfl⟩ := Prod.mk.inj h
    exact rs_rF_39
  rcases List.mem_cons.mp h with h | h
  · obtain ⟨rfl, rfl⟩ := Prod.mk.inj h
    exact rs_rF_40
  rcases List.mem_cons.mp h with h | h
  · obtain ⟨rfl, rfl⟩ := Prod.mk.inj h
    exact rs_rF_41
  rcases List.mem_cons.mp h with h | h
  · obtain ⟨rfl, rfl⟩ := Prod.mk.inj h
    exact rs_rF_42
  rcases List.mem_cons.mp h with h | h
  · obtain ⟨rfl, rfl⟩ := Prod.mk.inj h
    exact rs_rF_43
  rcases List.mem_cons.mp h with h | h
  · obtain ⟨rfl, rfl⟩ := Prod.mk.inj h
    exact rs_rF_44
  rcases List.mem_cons.mp h with h | h
  · obtain ⟨rfl, rfl⟩ := Prod.mk.inj h
    exact rs_rF_45
  rcases List.mem_cons.mp h with h | h
  · obtain ⟨rfl, rfl⟩ := Prod.mk.inj h
    exact rs_rF_46
  rcases List.mem_cons.mp h with h | h
  · obtain ⟨rfl, rfl⟩ := Prod.mk.inj h
    exact rs_rF_47
  rcases List.mem_cons.mp h with h | h
  · obtain ⟨rfl, rfl⟩ := Prod.mk.inj h
    exact rs_rF_48
  rcases List.mem_cons.mp h with h | h
  · obtain ⟨rfl, rfl⟩ := Prod.mk.inj h
    exact rs_rF_49
  rcases List.mem_cons.mp h with h | h
  · obtain ⟨rfl, rfl⟩ := Prod.mk.inj h
    exact rs_rF_50
  rcases List.mem_cons.mp h with h | h
  · obtain ⟨rfl, rfl⟩ := Prod.mk.inj h
    exact rs_rF_51
  rcases List.mem_cons.mp h with h | h
  · obtain ⟨rfl, rfl⟩ := Prod.mk.inj h
    exact rs_rF_52
  rcases List.mem_cons.mp h with h | h
  · obtain ⟨rfl, rfl⟩ := Prod.mk.inj h
    exact rs_rF_53
  rcases List.mem_cons.mp h with h | h
  · obtain ⟨rfl, rfl⟩ := Prod.mk.inj h
    exact rs_rF_54
  rcases List.mem_cons.mp h with h | h
  · obtain ⟨rfl, rfl⟩ := Prod.mk.inj h
    exact rs_rF_55
  rcases List.mem_cons.mp h with h | h
  · obtain ⟨rfl, rfl⟩ := Prod.mk.inj h
    exact rs_rF_56
  rcases List.mem_cons.mp h with h | h
  · obtain ⟨rfl, rfl⟩ := Prod.mk.inj h
    exact rs_rF_57
  rcases List.mem_cons.mp h with h | h
  · obtain ⟨rfl, rfl⟩ := Prod.mk.inj h
    exact rs_rF_58
  rcases List.mem_cons.mp h with h | h
  · obtain ⟨rfl, rfl⟩ := Prod.mk.inj h
    exact rs_rF_59
  rcases List.mem_cons.mp h with h | h
  · obtain ⟨rfl, rfl⟩ := Prod.mk.inj h
    exact rs_rF_60
  rcases List.mem_cons.mp h with h | h
  · obtain ⟨rfl, rfl⟩ := Prod.mk.inj h
    exact rs_rF_61
  rcases List.mem_cons.mp h with h | h
  · obtain ⟨rfl, rfl⟩ := Prod.mk.inj h
    exact rs_rF_62
  rcases List.mem_cons.mp h with h | h
  · obtain ⟨rfl, rfl⟩ := Prod.mk.inj h
    exact rs_rF_63
  rcases List.mem_cons.mp h with h | h
  · obtain ⟨rfl, rfl⟩ := Prod.mk.inj h
    exact rs_rF_64
  rcases List.mem_cons.mp h with h | h
  · obtain ⟨rfl, rfl⟩ := Prod.mk.inj h
    exact rs_rF_65
  rcases List.mem_cons.mp h with h | h
  · obtain ⟨rfl, rfl⟩ := Prod.mk.inj h
    exact rs_rF_66
  rcases List.mem_cons.mp h with h | h
  · obtain ⟨rfl, rfl⟩ := Prod.mk.inj h
    exact rs_rF_67
  rcases List.mem_cons.mp h with h | h
  · obtain ⟨rfl, rfl⟩ := Prod.mk.inj h
    exact rs_rF_68
  rcases List.mem_cons.mp h with h | h
  · obtain ⟨rfl, rfl⟩ := Prod.mk.inj h
    exact rs_rF_69
  rcases List.mem_cons.mp h with h | h
  · obtain ⟨rfl, rfl⟩ := Prod.mk.inj h
    exact rs_rF_70
  rcases List.mem_cons.mp h with h | h
  · obtain ⟨rfl, rfl⟩ := Prod.mk.inj h
    exact rs_rF_71
  rcases List.mem_cons.mp h with h | h
  · obtain ⟨rfl, rfl⟩ := Prod.mk.inj h
    exact rs_rF_72
  rcases List.mem_cons.mp h with h | h
  · obtain ⟨rfl, rfl⟩ := Prod.mk.inj h
    exact rs_rF_73
  rcases List.mem_cons.mp h with h | h
  · obtain ⟨rfl, rfl⟩ := Prod.mk.inj h
    exact rs_rF_74
  rcases List.mem_cons.mp h with h | h
  · obtain ⟨rfl, rfl⟩ := Prod.mk.inj h
    exact rs_rF_75
  rcases List.mem_cons.mp h with h | h
  · obtain ⟨rfl, rfl⟩ := Prod.mk.inj h
    exact rs_rF_76
  rcases List.mem_cons.mp h with h | h
  · obtain ⟨rfl, rfl⟩ := Prod.mk.inj h
    exact rs_rF_77
  rcases List.mem_cons.mp h with h | h
  · obtain ⟨rfl, rfl⟩ := Prod.mk.inj h
    exact rs_rF_78
  rcases List.mem_cons.mp h with h | h
  · obtain ⟨rfl, rfl⟩ := Prod.mk.inj h
    exact rs_rF_79
  rcases List.mem_cons.mp h with h | h
  · obtain ⟨rfl, rfl⟩ := Prod.mk.inj h
    exact rs_rF_80
  rcases List.mem_cons.mp h with h | h
  · obtain ⟨rfl, rfl⟩ := Prod.mk.inj h
    exact rs_rF_81
  rcases List.mem_cons.mp h with h | h
  · obtain ⟨rfl, rfl⟩ := Prod.mk.inj h
    exact rs_rF_82
  rcases List.mem_cons.mp h with h | h
  · obtain ⟨rfl, rfl⟩ := Prod.mk.inj h
    exact rs_rF_83
  rcases List.mem_cons.mp h with h | h
  · obtain ⟨rfl, rfl⟩ := Prod.mk.inj h
    exact rs_rF_84
  rcases List.mem_cons.mp h with h | h
  · obtain ⟨rfl, rfl⟩ := Prod.mk.inj h
    exact rs_rF_85
  rcases List.mem_cons.mp h with h | h
  · obtain ⟨rfl, rfl⟩ := Prod.mk.inj h
    exact rs_rF_86
  rcases List.mem_cons.mp h with h | h
  · obtain ⟨rfl, rfl⟩ := Prod.mk.inj h
    exact rs_rF_87
  rcases List.mem_cons.mp h with h | h
  · obtain ⟨rfl, rfl⟩ := Prod.mk.inj h
    exact rs_rF_88
  rcases List.mem_cons.mp h with h | h
  · obtain ⟨rfl, rfl⟩ := Prod.mk.inj h
    exact rs_rF_89
  rcases List.mem_cons.mp h with h | h
  · obtain ⟨rfl, rfl⟩ := Prod.mk.inj h
    exact rs_rF_90
  rcases List.mem_cons.mp h with h | h
  · obtain ⟨rfl, rfl⟩ := Prod.mk.inj h
    exact rs_rF_91
  rcases List.mem_cons.mp h with h | h
  · obtain ⟨rfl, rfl⟩ := Prod.mk.inj h
    exact rs_rF_92
  rcases List.mem_cons.mp h with h | h
  · obtain ⟨rfl, rfl⟩ := Prod.mk.inj h
    exact rs_rF_93
  rcases List.mem_cons.mp h with h | h
  · obtain ⟨rfl, rfl⟩ := Prod.mk.inj h
    exact rs_rF_94
  rcases List.mem_cons.mp h with h | h
  · obtain ⟨rfl, rfl⟩ := Prod.mk.inj h
    exact rs_rF_98
  rcases List.mem_cons.mp h with h | h
  · obtain ⟨rfl, rfl⟩ := Prod.mk.inj h
    exact rs_rF_140
  rcases List.mem_cons.mp h with h | h
  · obtain ⟨rfl, rfl⟩ := Prod.mk.inj h
    exact rs_rF_141
  rcases List.mem_cons.mp h with h | h
  · obtain ⟨rfl, rfl⟩ := Prod.mk.inj h
    exact rs_rF_142
  rcases List.mem_cons.mp h with h | h
  · obtain ⟨rfl, rfl⟩ := Prod.mk.inj h
    exact rs_rF_143
  rcases List.mem_cons.mp h with h | h
  · obtain ⟨rfl, rfl⟩ := Prod.mk.inj h
    exact rs_rF_144
  rcases List.mem_cons.mp h with h | h
  · obtain ⟨rfl, rfl⟩ := Prod.mk.inj h
    exact rs_rF_145
  rcases List.mem_cons.mp h with h | h
  · obtain ⟨rfl, rfl⟩ := Prod.mk.inj h
    exact rs_rF_146
  rcases List.mem_cons.mp h with h | h
  · obtain ⟨rfl, rfl⟩ := Prod.mk.inj h
    exact rs_rF_147
  rcases List.mem_cons.mp h with h | h
  · obtain ⟨rfl, rfl⟩ := Prod.mk.inj h
    exact rs_rF_148
  rcases List.mem_cons.mp h with h | h
  · obtain ⟨rfl, rfl⟩ := Prod.mk.inj h
    exact rs_rF_149
  rcases List.mem_cons.mp h with h | h
  · obtain ⟨rfl, rfl⟩ := Prod.mk.inj h
    exact rs_rF_150
  rcases List.mem_cons.mp h with h | h
  · obtain ⟨rfl, rfl⟩ := Prod.mk.inj h
    exact rs_rF_151
  rcases List.mem_cons.mp h with h | h
  · obtain ⟨rfl, rfl⟩ := Prod.mk.inj h
    exact rs_rF_152
  rcases List.mem_cons.mp h with h | h
  · obtain ⟨rfl, rfl⟩ := Prod.mk.inj h
    exact rs_rF_153
  rcases List.mem_cons.mp h with h | h
  · obtain ⟨rfl, rfl⟩ := Prod.mk.inj h
    exact rs_rF_154
  rcases List.mem_cons.mp h with h | h
  · obtain ⟨rfl, rfl⟩ := Prod.mk.inj h
    exact rs_rF_155
  rcases List.mem_cons.mp h with h | h
  · obtain ⟨rfl, rfl⟩ := Prod.mk.inj h
    exact rs_rF_156
  rcases List.mem_cons.mp h with h | h
  · obtain ⟨rfl, rfl⟩ := Prod.mk.inj h
    exact rs_rF_157
  rcases List.mem_cons.mp h with h | h
  · obtain ⟨rfl, rfl⟩ := Prod.mk.inj h
    exact rs_rF_158
  rcases List.mem_cons.mp h with h | h
  · obtain ⟨rfl, rfl⟩ := Prod.mk.inj h
    exact rs_rF_159
  rcases List.mem_cons.mp h with h | h
  · obtain ⟨rfl, rfl⟩ := Prod.mk.inj h
    exact rs_rF_160
  rcases List.mem_cons.mp h with h | h
  · obtain ⟨rfl, rfl⟩ := Prod.mk.inj h
    exact rs_rF_161
  rcases List.mem_cons.mp h with h | h
  · obtain ⟨rfl, rfl⟩ := Prod.mk.inj h
    exact rs_rF_162
  rcases List.mem_cons.mp h with h | h
  · obtain ⟨rfl, rfl⟩ := Prod.mk.inj h
    exact rs_rF_163
  rcases List.mem_cons.mp h with h | h
  · obtain ⟨rfl, rfl⟩ := Prod.mk.inj h
    exact absurd rfl hne
  rcases List.mem_cons.mp h with h | h
  · obtain ⟨rfl, rfl⟩ := Prod.mk.inj h
    exact absurd rfl hne2
  exact absurd h List.not_mem_nil
def ZL_rP : List (Nat × Nat) := ((4, 4) :: (5, 5) :: (6, 6) :: (7, 7) :: (8, 8) :: (9, 9) :: (10, 10) :: (11, 11) :: (12, 12) :: (13, 13) :: (16, 16) :: (17, 17) :: (18, 18) :: (19, 19) :: (20, 20) :: (21, 21) :: (22, 22) :: (23, 23) :: (24, 24) :: (25, 25) :: (26, 26) :: (27, 27) :: (28, 28) :: (29, 29) :: (30, 30) :: (31, 31) :: (32, 32) :: (33, 33) :: (34, 34) :: (35, 35) :: (36, 36) :: (37, 37) :: (38, 38) :: (39, 39) :: (40, 40) :: (41, 41) :: (42, 42) :: (43, 43) :: (44, 44) :: (45, 45) :: (46, 46) :: (47, 47) :: (48, 48) :: (49, 49) :: (50, 50) :: (51, 51) :: (52, 52) :: (53, 53) :: (54, 54) :: (55, 55) :: (56, 56) :: (57, 57) :: (58, 58) :: (59, 59) :: (60, 60) :: (61, 61) :: (62, 62) :: (63, 63) :: (64, 64) :: (65, 65) :: (66, 66) :: (67, 67) :: (68, 68) :: (69, 69) :: (70, 70) :: (71, 71) :: (72, 72) :: (73, 73) :: (74, 74) :: (75, 75) :: (76, 76) :: (77, 77) :: (78, 78) :: (79, 79) :: (80, 80) :: (81, 81) :: (82, 82) :: (83, 83) :: (84, 84) :: (85, 85) :: (86, 86) :: (87, 87) :: (88, 88) :: (89, 89) :: (90, 90) :: (91, 91) :: (92, 92) :: (93, 93) :: (94, 94) :: (98, 98) :: (140, 152) :: (141, 153) :: (142, 154) :: (143, 155) :: (144, 156) :: (145, 157) :: (146, 158) :: (147, 159) :: (148, 160) :: (149, 161) :: (150, 162) :: (151, 163) :: (152, 140) :: (153, 141) :: (154, 142) :: (155, 143) :: (156, 144) :: (157, 145) :: (158, 146) :: (159, 147) :: (160, 148) :: (161, 149) :: (162, 150) :: (163, 151) :: (166, 3) :: (167, 14) :: [])
def zt_rP : Nat → Option Nat := zt ZL_rP
theorem rs_rP_4 {nC nS : Int} : rS zt_rP (SHc nC nS 4) (SHc nC nS 4) := ⟨rfl, rfl, (rE_cons rK_I (rE_cons rK_I (rE_cons rK_I (rE_cons rK_I (rE_cons rK_I (rE_cons rK_I (rE_cons rK_I (rE_cons rK_I rE_nil))))))))⟩
theorem rs_rP_5 {nC nS : Int} : rS zt_rP (SHc nC nS 5) (SHc nC nS 5) := ⟨rfl, rfl, (rE_cons (rK_R (by decide)) (rE_cons (rK_R (by decide)) (rE_cons (rK_R (by decide)) (rE_cons (rK_R (by decide)) (rE_cons (rK_R (by decide)) (rE_cons (rK_R (by decide)) (rE_cons (rK_R (by decide)) (rE_cons (rK_R (by decide)) (rE_cons (rK_R (by decide)) (rE_cons (rK_R (by decide)) (rE_cons (rK_R (by decide)) (rE_cons rK_I (rE_cons rK_I (rE_cons rK_I (rE_cons rK_I rE_nil)))))))))))))))⟩
theorem rs_rP_6 {nC nS : Int} : rS zt_rP (SHc nC nS 6) (SHc nC nS 6) := ⟨rfl, rfl, (rE_cons (rK_R (by decide)) (rE_cons (rK_R (by decide)) (rE_cons (rK_R (by decide)) (rE_cons rK_I (rE_cons rK_I rE_nil)))))⟩
theorem rs_rP_7 {nC nS : Int} : rS zt_rP (SHc nC nS 7) (SHc nC nS 7) := ⟨rfl, rfl, (rE_cons (rK_R (by decide)) (rE_cons (rK_R (by decide)) (rE_cons (rK_R (by decide)) (rE_cons (rK_R (by decide)) (rE_cons (rK_R (by decide)) (rE_cons (rK_R (by decide)) (rE_cons (rK_R (by decide)) (rE_cons (rK_R (by decide)) (rE_cons (rK_R (by decide)) (rE_cons (rK_R (by decide)) (rE_cons (rK_R (by decide)) (rE_cons rK_I (rE_cons rK_I (rE_cons rK_I rE_nil))))))))))))))⟩
theorem rs_rP_8 {nC nS : Int} : rS zt_rP (SHc nC nS 8) (SHc nC nS 8) := ⟨rfl, rfl, (rE_cons (rK_R (by decide)) (rE_cons (rK_R (by decide)) (rE_cons (rK_R (by decide)) (rE_cons (rK_R (by decide)) (rE_cons (rK_R (by decide)) (rE_cons (rK_R (by decide)) (rE_cons (rK_R (by decide)) (rE_cons (rK_R (by decide)) (rE_cons (rK_R (by decide)) (rE_cons (rK_R (by decide)) (rE_cons (rK_R (by decide)) (rE_cons (rK_R (by decide)) (rE_cons rK_I (rE_cons rK_I (rE_cons rK_I (rE_cons rK_I (rE_cons rK_I rE_nil)))))))))))))))))⟩
theorem rs_rP_9 {nC nS : Int} : rS zt_rP (SHc nC nS 9) (SHc nC nS 9) := ⟨rfl, rfl, (rE_cons (rK_R (by decide)) (rE_cons (rK_R (by decide)) (rE_cons rK_I (rE_cons rK_I rE_nil))))⟩
theorem rs_rP_10 {nC nS : Int} : rS zt_rP (SHc nC nS 10) (SHc nC nS 10) := ⟨rfl, rfl, (rE_cons rK_I (rE_cons rK_I (rE_cons rK_I (rE_cons rK_I (rE_cons rK_I (rE_cons rK_I (rE_cons rK_I (rE_cons rK_I (rE_cons rK_I (rE_cons rK_I (rE_cons rK_I (rE_cons rK_I rE_nil))))))))))))⟩
theorem rs_rP_11 {nC nS : Int} : rS zt_rP (SHc nC nS 11) (SHc nC nS 11) := ⟨rfl, rfl, (rE_cons (rK_R (by decide)) (rE_cons (rK_R (by decide)) (rE_cons (rK_R (by decide)) (rE_cons (rK_R (by decide)) (rE_cons (rK_R (by decide)) (rE_cons (rK_R (by decide)) (rE_cons rK_I rE_nil)))))))⟩
theorem rs_rP_12 {nC nS : Int} : rS zt_rP (SHc nC nS 12) (SHc nC nS 12) := ⟨rfl, rfl, (rE_cons (rK_R (by decide)) (rE_cons (rK_R (by decide)) (rE_cons rK_I rE_nil)))⟩
theorem rs_rP_13 {nC nS : Int} : rS zt_rP (SHc nC nS 13) (SHc nC nS 13) := ⟨rfl, rfl, (rE_cons (rK_R (by decide)) (rE_cons (rK_R (by decide)) (rE_cons rK_I (rE_cons rK_I (rE_cons rK_I (rE_cons rK_I (rE_cons rK_I (rE_cons rK_I (rE_cons rK_I (rE_cons rK_I (rE_cons rK_I (rE_cons rK_I rE_nil))))))))))))⟩
theorem rs_rP_16 {nC nS : Int} : rS zt_rP (SHc nC nS 16) (SHc nC nS 16) := ⟨rfl, rfl, (rE_ga rK_I)⟩
theorem rs_rP_17 {nC nS : Int} : rS zt_rP (SHc nC nS 17) (SHc nC nS 17) := ⟨rfl, rfl, (rE_gnb (by decide))⟩
theorem rs_rP_18 {nC nS : Int} : rS zt_rP (SHc nC nS 18) (SHc nC nS 18) := ⟨rfl, rfl, (rE_ga (rK_R (by decide)))⟩
theorem rs_rP_19 {nC nS : Int} : rS zt_rP (SHc nC nS 19) (SHc nC nS 19) := ⟨rfl, rfl, (rE_ga rK_I)⟩
theorem rs_rP_20 {nC nS : Int} : rS zt_rP (SHc nC nS 20) (SHc nC nS 20) := ⟨rfl, rfl, (rE_ga rK_I)⟩
theorem rs_rP_21 {nC nS : Int} : rS zt_rP (SHc nC nS 21) (SHc nC nS 21) := ⟨rfl, rfl, (rE_ga rK_I)⟩
theorem rs_rP_22 {nC nS : Int} : rS zt_rP (SHc nC nS 22) (SHc nC nS 22) := ⟨rfl, rfl, (rE_ga rK_I)⟩
theorem rs_rP_23 {nC nS : Int} : rS zt_rP (SHc nC nS 23) (SHc nC nS 23) := ⟨rfl, rfl, (rE_ga rK_I)⟩
theorem rs_rP_24 {nC nS : Int} : rS zt_rP (SHc nC nS 24) (SHc nC nS 24) := ⟨rfl, rfl, (rE_ga rK_I)⟩
theorem rs_rP_25 {nC nS : Int} : rS zt_rP (SHc nC nS 25) (SHc nC nS 25) := ⟨rfl, rfl, (rE_ga rK_I)⟩
theorem rs_rP_26 {nC nS : Int} : rS zt_rP (SHc nC nS 26) (SHc nC nS 26) := ⟨rfl, rfl, (rE_ga rK_I)⟩
theorem rs_rP_27 {nC nS : Int} : rS zt_rP (SHc nC nS 27) (SHc nC nS 27) := ⟨rfl, rfl, (rE_ga rK_I)⟩
theorem rs_rP_28 {nC nS : Int} : rS zt_rP (SHc nC nS 28) (SHc nC nS 28) := ⟨rfl, rfl, (rE_ga rK_I)⟩
theorem rs_rP_29 {nC nS : Int} : rS zt_rP (SHc nC nS 29) (SHc nC nS 29) := ⟨rfl, rfl, (rE_ga rK_I)⟩
theorem rs_rP_30 {nC nS : Int} : rS zt_rP (SHc nC nS 30) (SHc nC nS 30) := ⟨rfl, rfl, (rE_ga rK_I)⟩
theorem rs_rP_31 {nC nS : Int} : rS zt_rP (SHc nC nS 31) (SHc nC nS 31) := ⟨rfl, rfl, (rE_ga rK_I)⟩
theorem rs_rP_32 {nC nS : Int} : rS zt_rP (SHc nC nS 32) (SHc nC nS 32) := ⟨rfl, rfl, (rE_ga rK_I)⟩
theorem rs_rP_33 {nC nS : Int} : rS zt_rP (SHc nC nS 33) (SHc nC nS 33) := ⟨rfl, rfl, (rE_ga rK_I)⟩
theorem rs_rP_34 {nC nS : Int} : rS zt_rP (SHc nC nS 34) (SHc nC nS 34) := ⟨rfl, rfl, (rE_ga rK_I)⟩
theorem rs_rP_35 {nC nS : Int} : rS zt_rP (SHc nC nS 35) (SHc nC nS 35) := ⟨rfl, rfl, (rE_ga rK_I)⟩
theorem rs_rP_36 {nC nS : Int} : rS zt_rP (SHc nC nS 36) (SHc nC nS 36) := ⟨rfl, rfl, (rE_ga rK_I)⟩
theorem rs_rP_37 {nC nS : Int} : rS zt_rP (SHc nC nS 37) (SHc nC nS 37) := ⟨rfl, rfl, (rE_ga rK_I)⟩
theorem rs_rP_38 {nC nS : Int} : rS zt_rP (SHc nC nS 38) (SHc nC nS 38) := ⟨rfl, rfl, (rE_ga rK_I)⟩
theorem rs_rP_39 {nC nS : Int} : rS zt_rP (SHc nC nS 39) (SHc nC nS 39) := ⟨rfl, rfl, (rE_ga rK_I)⟩
theorem rs_rP_40 {nC nS : Int} : rS zt_rP (SHc nC nS 40) (SHc nC nS 40) := ⟨rfl, rfl, (rE_ga rK_I)⟩
theorem rs_rP_41 {nC nS : Int} : rS zt_rP (SHc nC nS 41) (SHc nC nS 41) := ⟨rfl, rfl, (rE_ga rK_I)⟩
theorem rs_rP_42 {nC nS : Int} : rS zt_rP (SHc nC nS 42) (SHc nC nS 42) := ⟨rfl, rfl, (rE_ga rK_I)⟩
theorem rs_rP_43 {nC nS : Int} : rS zt_rP (SHc nC nS 43) (SHc nC nS 43) := ⟨rfl, rfl, (rE_ga rK_I)⟩
theorem rs_rP_44 {nC nS : Int} : rS zt_rP (SHc nC nS 44) (SHc nC nS 44) := ⟨rfl, rfl, (rE_ga rK_I)⟩
theorem rs_rP_45 {nC nS : Int} : rS zt_rP (SHc nC nS 45) (SHc nC nS 45) := ⟨rfl, rfl, (rE_ga rK_I)⟩
theorem rs_rP_46 {nC nS : Int} : rS zt_rP (SHc nC nS 46) (SHc nC nS 46) := ⟨rfl, rfl, (rE_ga rK_I)⟩
theorem rs_rP_47 {nC nS : Int} : rS zt_rP (SHc nC nS 47) (SHc nC nS 47) := ⟨rfl, rfl, (rE_ga rK_I)⟩
theorem rs_rP_48 {nC nS : Int} : rS zt_rP (SHc nC nS 48) (SHc nC nS 48) := ⟨rfl, rfl, (rE_ga rK_I)⟩
theorem rs_rP_49 {nC nS : Int} : rS zt_rP (SHc nC nS 49) (SHc nC nS 49) := ⟨rfl, rfl, (rE_ga rK_I)⟩
theorem rs_rP_50 {nC nS : Int} : rS zt_rP (SHc nC nS 50) (SHc nC nS 50) := ⟨rfl, rfl, (rE_ga rK_J)⟩
theorem rs_rP_51 {nC nS : Int} : rS zt_rP (SHc nC nS 51) (SHc nC nS 51) := ⟨rfl, rfl, (rE_gnb (by decide))⟩
theorem rs_rP_52 {nC nS : Int} : rS zt_rP (SHc nC nS 52) (SHc nC nS 52) := ⟨rfl, rfl, (rE_ga rK_I)⟩
theorem rs_rP_53 {nC nS : Int} : rS zt_rP (SHc nC nS 53) (SHc nC nS 53) := ⟨rfl, rfl, (rE_ga rK_I)⟩
theorem rs_rP_54 {nC nS : Int} : rS zt_rP (SHc nC nS 54) (SHc nC nS 54) := ⟨rfl, rfl, (rE_ga rK_I)⟩
theorem rs_rP_55 {nC nS : Int} : rS zt_rP (SHc nC nS 55) (SHc nC nS 55) := ⟨rfl, rfl, (rE_ga rK_I)⟩
theorem rs_rP_56 {nC nS : Int} : rS zt_rP (SHc nC nS 56) (SHc nC nS 56) := ⟨rfl, rfl, (rE_ga rK_J)⟩
theorem rs_rP_57 {nC nS : Int} : rS zt_rP (SHc nC nS 57) (SHc nC nS 57) := ⟨rfl, rfl, (rE_ga rK_I)⟩
theorem rs_rP_58 {nC nS : Int} : rS zt_rP (SHc nC nS 58) (SHc nC nS 58) := ⟨rfl, rfl, (rE_ga rK_I)⟩
theorem rs_rP_59 {nC nS : Int} : rS zt_rP (SHc nC nS 59) (SHc nC nS 59) := ⟨rfl, rfl, (rE_ga rK_I)⟩
theorem rs_rP_60 {nC nS : Int} : rS zt_rP (SHc nC nS 60) (SHc nC nS 60) := ⟨rfl, rfl, (rE_ga rK_I)⟩
theorem rs_rP_61 {nC nS : Int} : rS zt_rP (SHc nC nS 61) (SHc nC nS 61) := ⟨rfl, rfl, (rE_ga rK_I)⟩
theorem rs_rP_62 {nC nS : Int} : rS zt_rP (SHc nC nS 62) (SHc nC nS 62) := ⟨rfl, rfl, (rE_ga rK_I)⟩
theorem rs_rP_63 {nC nS : Int} : rS zt_rP (SHc nC nS 63) (SHc nC nS 63) := ⟨rfl, rfl, (rE_ga rK_I)⟩
theorem rs_rP_64 {nC nS : Int} : rS zt_rP (SHc nC nS 64) (SHc nC nS 64) := ⟨rfl, rfl, (rE_ga rK_I)⟩
theorem rs_rP_65 {nC nS : Int} : rS zt_rP (SHc nC nS 65) (SHc nC nS 65) := ⟨rfl, rfl, (rE_ga rK_I)⟩
theorem rs_rP_66 {nC nS : Int} : rS zt_rP (SHc nC nS 66) (SHc nC nS 66) := ⟨rfl, rfl, (rE_ga rK_I)⟩
theorem rs_rP_67 {nC nS : Int} : rS zt_rP (SHc nC nS 67) (SHc nC nS 67) := ⟨rfl, rfl, (rE_ga rK_I)⟩
theorem rs_rP_68 {nC nS : Int} : rS zt_rP (SHc nC nS 68) (SHc nC nS 68) := ⟨rfl, rfl, (rE_ga rK_I)⟩
theorem rs_rP_69 {nC nS : Int} : rS zt_rP (SHc nC nS 69) (SHc nC nS 69) := ⟨rfl, rfl, (rE_ga rK_I)⟩
theorem rs_rP_70 {nC nS : Int} : rS zt_rP (SHc nC nS 70) (SHc nC nS 70) := ⟨rfl, rfl, (rE_ga (rK_R (by decide)))⟩
theorem rs_rP_71 {nC nS : Int} : rS zt_rP (SHc nC nS 71) (SHc nC nS 71) := ⟨rfl, rfl, (rE_ga rK_I)⟩
theorem rs_rP_72 {nC nS : Int} : rS zt_rP (SHc nC nS 72) (SHc nC nS 72) := ⟨rfl, rfl, (rE_ga rK_I)⟩
theorem rs_rP_73 {nC nS : Int} : rS zt_rP (SHc nC nS 73) (SHc nC nS 73) := ⟨rfl, rfl, (rE_ga rK_I)⟩
theorem rs_rP_74 {nC nS : Int} : rS zt_rP (SHc nC nS 74) (SHc nC nS 74) := ⟨rfl, rfl, (rE_ga rK_I)⟩
theorem rs_rP_75 {nC nS : Int} : rS zt_rP (SHc nC nS 75) (SHc nC nS 75) := ⟨rfl, rfl, (rE_ga rK_I)⟩
theorem rs_rP_76 {nC nS : Int} : rS zt_rP (SHc nC nS 76) (SHc nC nS 76) := ⟨rfl, rfl, (rE_ga rK_I)⟩
theorem rs_rP_77 {nC nS : Int} : rS zt_rP (SHc nC nS 77) (SHc nC nS 77) := ⟨rfl, rfl, (rE_ga rK_I)⟩
theorem rs_rP_78 {nC nS : Int} : rS zt_rP (SHc nC nS 78) (SHc nC nS 78) := ⟨rfl, rfl, (rE_ga rK_I)⟩
theorem rs_rP_79 {nC nS : Int} : rS zt_rP (SHc nC nS 79) (SHc nC nS 79) := ⟨rfl, rfl, (rE_ga rK_I)⟩
theorem rs_rP_80 {nC nS : Int} : rS zt_rP (SHc nC nS 80) (SHc nC nS 80) := ⟨rfl, rfl, (rE_ga rK_I)⟩
theorem rs_rP_81 {nC nS : Int} : rS zt_rP (SHc nC nS 81) (SHc nC nS 81) := ⟨rfl, rfl, (rE_ga rK_I)⟩
theorem rs_rP_82 {nC nS : Int} : rS zt_rP (SHc nC nS 82) (SHc nC nS 82) := ⟨rfl, rfl, (rE_ga rK_I)⟩
theorem rs_rP_83 {nC nS : Int} : rS zt_rP (SHc nC nS 83) (SHc nC nS 83) := ⟨rfl, rfl, (rE_ga rK_I)⟩
theorem rs_rP_84 {nC nS : Int} : rS zt_rP (SHc nC nS 84) (SHc nC nS 84) := ⟨rfl, rfl, (rE_ga rK_I)⟩
theorem rs_rP_85 {nC nS : Int} : rS zt_rP (SHc nC nS 85) (SHc nC nS 85) := ⟨rfl, rfl, (rE_ga rK_I)⟩
theorem rs_rP_86 {nC nS : Int} : rS zt_rP (SHc nC nS 86) (SHc nC nS 86) := ⟨rfl, rfl, (rE_ga rK_I)⟩
theorem rs_rP_87 {nC nS : Int} : rS zt_rP (SHc nC nS 87) (SHc nC nS 87) := ⟨rfl, rfl, (rE_ga rK_I)⟩
theorem rs_rP_88 {nC nS : Int} : rS zt_rP (SHc nC nS 88) (SHc nC nS 88) := ⟨rfl, rfl, (rE_ga rK_I)⟩
theorem rs_rP_89 {nC nS : Int} : rS zt_rP (SHc nC nS 89) (SHc nC nS 89) := ⟨rfl, rfl, (rE_ga rK_I)⟩
theorem rs_rP_90 {nC nS : Int} : rS zt_rP (SHc nC nS 90) (SHc nC nS 90) := ⟨rfl, rfl, (rE_cons (rK_R (by decide)) (rE_cons (rK_R (by decide)) (rE_cons (rK_R (by decide)) (rE_cons rK_I (rE_cons rK_I rE_nil)))))⟩
theorem rs_rP_91 {nC nS : Int} : rS zt_rP (SHc nC nS 91) (SHc nC nS 91) := ⟨rfl, rfl, (rE_cons (rK_R (by decide)) (rE_cons (rK_R (by decide)) (rE_cons (rK_R (by decide)) (rE_cons (rK_R (by decide)) (rE_cons (rK_R (by decide)) (rE_cons (rK_R (by decide)) (rE_cons rK_I rE_nil)))))))⟩
theorem rs_rP_92 {nC nS : Int} : rS zt_rP (SHc nC nS 92) (SHc nC nS 92) := ⟨rfl, rfl, (rE_cons (rK_R (by decide)) (rE_cons (rK_R (by decide)) (rE_cons rK_I rE_nil)))⟩
theorem rs_rP_93 {nC nS : Int} : rS zt_rP (SHc nC nS 93) (SHc nC nS 93) := ⟨rfl, rfl, (rE_cons (rK_R (by decide)) (rE_cons (rK_R (by decide)) (rE_cons (rK_R (by decide)) (rE_cons (rK_R (by decide)) (rE_cons (rK_R (by decide)) (rE_cons (rK_R (by decide)) (rE_cons (rK_R (by decide)) (rE_cons (rK_R (by decide)) (rE_cons (rK_R (by decide)) (rE_cons (rK_R (by decide)) (rE_cons (rK_R (by decide)) (rE_cons rK_I (rE_cons rK_I (rE_cons rK_I (rE_cons rK_I rE_nil)))))))))))))))⟩
theorem rs_rP_94 {nC nS : Int} : rS zt_rP (SHc nC nS 94) (SHc nC nS 94) := ⟨rfl, rfl, (rE_cons (rK_R (by decide)) (rE_cons (rK_R (by decide)) (rE_cons rK_I (rE_cons rK_I (rE_cons rK_I (rE_cons rK_I (rE_cons rK_I (rE_cons rK_I (rE_cons rK_I (rE_cons rK_I (rE_cons rK_I (rE_cons rK_I rE_nil))))))))))))⟩
theorem rs_rP_98 {nC nS : Int} : rS zt_rP (SHc nC nS 98) (SHc nC nS 98) := ⟨rfl, rfl, (rE_ga rK_J)⟩
theorem rs_rP_140 {nC nS : Int} : rS zt_rP (SHc nC nS 140) (SHc nC nS 152) := ⟨rfl, rfl, (rE_cons (rK_R (by decide)) (rE_cons (rK_R (by decide)) (rE_cons (rK_R (by decide)) (rE_cons (rK_R (by decide)) (rE_cons (rK_R (by decide)) (rE_cons (rK_R (by decide)) (rE_cons (rK_R (by decide)) (rE_cons (rK_R (by decide)) (rE_cons (rK_R (by decide)) (rE_cons (rK_R (by decide)) (rE_cons (rK_R (by decide)) (rE_cons rK_I (rE_cons rK_I (rE_cons rK_I rE_nil))))))))))))))⟩
theorem rs_rP_141 {nC nS : Int} : rS zt_rP (SHc nC nS 141) (SHc nC nS 153) := ⟨rfl, rfl, (rE_ga rK_I)⟩
theorem rs_rP_142 {nC nS : Int} : rS zt_rP (SHc nC nS 142) (SHc nC nS 154) := ⟨rfl, rfl, (rE_ga rK_I)⟩
theorem rs_rP_143 {nC nS : Int} : rS zt_rP (SHc nC nS 143) (SHc nC nS 155) := ⟨rfl, rfl, (rE_ga rK_I)⟩
theorem rs_rP_144 {nC nS : Int} : rS zt_rP (SHc nC nS 144) (SHc nC nS 156) := ⟨rfl, rfl, (rE_ga rK_I)⟩
theorem rs_rP_145 {nC nS : Int} : rS zt_rP (SHc nC nS 145) (SHc nC nS 157) := ⟨rfl, rfl, (rE_ga rK_I)⟩
theorem rs_rP_146 {nC nS : Int} : rS zt_rP (SHc nC nS 146) (SHc nC nS 158) := ⟨rfl, rfl, (rE_ga rK_I)⟩
theorem rs_rP_147 {nC nS : Int} : rS zt_rP (SHc nC nS 147) (SHc nC nS 159) := ⟨rfl, rfl, (rE_ga rK_I)⟩
theorem rs_rP_148 {nC nS : Int} : rS zt_rP (SHc nC nS 148) (SHc nC nS 160) := ⟨rfl, rfl, (rE_ga rK_I)⟩
theorem rs_rP_149 {nC nS : Int} : rS zt_rP (SHc nC nS 149) (SHc nC nS 161) := ⟨rfl, rfl, (rE_ga rK_I)⟩
theorem rs_rP_150 {nC nS : Int} : rS zt_rP (SHc nC nS 150) (SHc nC nS 162) := ⟨rfl, rfl, (rE_ga rK_I)⟩
theorem rs_rP_151 {nC nS : Int} : rS zt_rP (SHc nC nS 151) (SHc nC nS 163) := ⟨rfl, rfl, (rE_ga rK_J)⟩
theorem rs_rP_152 {nC nS : Int} : rS zt_rP (SHc nC nS 152) (SHc nC nS 140) := ⟨rfl, rfl, (rE_cons (rK_R (by decide)) (rE_cons (rK_R (by decide)) (rE_cons (rK_R (by decide)) (rE_cons (rK_R (by decide)) (rE_cons (rK_R (by decide)) (rE_cons (rK_R (by decide)) (rE_cons (rK_R (by decide)) (rE_cons (rK_R (by decide)) (rE_cons (rK_R (by decide)) (rE_cons (rK_R (by decide)) (rE_cons (rK_R (by decide)) (rE_cons rK_I (rE_cons rK_I (rE_cons rK_I rE_nil))))))))))))))⟩
theorem rs_rP_153 {nC nS : Int} : rS zt_rP (SHc nC nS 153) (SHc nC nS 141) := ⟨rfl, rfl, (rE_ga rK_I)⟩
theorem rs_rP_154 {nC nS : Int} : rS zt_rP (SHc nC nS 154) (SHc nC nS 142) := ⟨rfl, rfl, (rE_ga rK_I)⟩
theorem rs_rP_155 {nC nS : Int} : rS zt_rP (SHc nC nS 155) (SHc nC nS 143) := ⟨rfl, rfl, (rE_ga rK_I)⟩
theorem rs_rP_156 {nC nS : Int} : rS zt_rP (SHc nC nS 156) (SHc nC nS 144) := ⟨rfl, rfl, (rE_ga rK_I)⟩
theorem rs_rP_157 {nC nS : Int} : rS zt_rP (SHc nC nS 157) (SHc nC nS 145) := ⟨rfl, rfl, (rE_ga rK_I)⟩
theorem rs_rP_158 {nC nS : Int} : rS zt_rP (SHc nC nS 158) (SHc nC nS 146) := ⟨rfl, rfl, (rE_ga rK_I)⟩
theorem rs_rP_159 {nC nS : Int} : rS zt_rP (SHc nC nS 159) (SHc nC nS 147) := ⟨rfl, rfl, (rE_ga rK_I)⟩
theorem rs_rP_160 {nC nS : Int} : rS zt_rP (SHc nC nS 160) (SHc nC nS 148) := ⟨rfl, rfl, (rE_ga rK_I)⟩
theorem rs_rP_161 {nC nS : Int} : rS zt_rP (SHc nC nS 161) (SHc nC nS 149) := ⟨rfl, rfl, (rE_ga rK_I)⟩
theorem rs_rP_162 {nC nS : Int} : rS zt_rP (SHc nC nS 162) (SHc nC nS 150) := ⟨rfl, rfl, (rE_ga rK_I)⟩
theorem rs_rP_163 {nC nS : Int} : rS zt_rP (SHc nC nS 163) (SHc nC nS 151) := ⟨rfl, rfl, (rE_ga rK_J)⟩
set_option maxRecDepth 100000 in
theorem rs_rP {nC nS : Int} : ∀ t u, t ≠ 166 → t ≠ 167 → zt_rP t = some u → rS zt_rP (SHc nC nS t) (SHc nC nS u) := by
  intro t u hne hne2 h
  have h := zt_m h
  rcases List.mem_cons.mp h with h | h
  · obtain ⟨rfl, rfl⟩ := Prod.mk.inj h
    exact rs_rP_4
  rcases List.mem_cons.mp h with h | h
  · obtain ⟨rfl, rfl⟩ := Prod.mk.inj h
    exact rs_rP_5
  rcases List.mem_cons.mp h with h | h
  · obtain ⟨rfl, rfl⟩ := Prod.mk.inj h
    exact rs_rP_6
  rcases List.mem_cons.mp h with h | h
  · obtain ⟨rfl, rfl⟩ := Prod.mk.inj h
    exact rs_rP_7
  rcases List.mem_cons.mp h with h | h
  · obtain ⟨rfl, rfl⟩ := Prod.mk.inj h
    exact rs_rP_8
  rcases List.mem_cons.mp h with h | h
  · obtain ⟨rfl, rfl⟩ := Prod.mk.inj h
    exact rs_rP_9
  rcases List.mem_cons.mp h with h | h
  · obtain ⟨rfl, rfl⟩ := Prod.mk.inj h
    exact rs_rP_10
  rcases List.mem_cons.mp h with h | h
  · obtain ⟨rfl, rfl⟩ := Prod.mk.inj h
    exact rs_rP_11
  rcases List.mem_cons.mp h with h | h
  · obtain ⟨rfl, rfl⟩ := Prod.mk.inj h
    exact rs_rP_12
  rcases List.mem_cons.mp h with h | h
  · obtain ⟨rfl, rfl⟩ := Prod.mk.inj h
    exact rs_rP_13
  rcases List.mem_cons.mp h with h | h
  · obtain ⟨rfl, rfl⟩ := Prod.mk.inj h
    exact rs_rP_16
  rcases List.mem_cons.mp h with h | h
  · obtain ⟨rfl, rfl⟩ := Prod.mk.inj h
    exact rs_rP_17
  rcases List.mem_cons.mp h with h | h
  · obtain ⟨rfl, rfl⟩ := Prod.mk.inj h
    exact rs_rP_18
  rcases List.mem_cons.mp h with h | h
  · obtain ⟨rfl, rfl⟩ := Prod.mk.inj h
    exact rs_rP_19
  rcases List.mem_cons.mp h with h | h
  · obtain ⟨rfl, rfl⟩ := Prod.mk.inj h
    exact rs_rP_20
  rcases List.mem_cons.mp h with h | h
  · obtain ⟨rfl, rfl⟩ := Prod.mk.inj h
    exact rs_rP_21
  rcases List.mem_cons.mp h with h | h
  · obtain ⟨rfl, rfl⟩ := Prod.mk.inj h
    exact rs_rP_22
  rcases List.mem_cons.mp h with h | h
  · obtain ⟨rfl, rfl⟩ := Prod.mk.inj h
    exact rs_rP_23
  rcases List.mem_cons.mp h with h | h
  · obtain ⟨rfl, rfl⟩ := Prod.mk.inj h
    exact rs_rP_24
  rcases List.mem_cons.mp h with h | h
  · obtain ⟨rfl, rfl⟩ := Prod.mk.inj h
    exact rs_rP_25
  rcases List.mem_cons.mp h with h | h
  · obtain ⟨rfl, rfl⟩ := Prod.mk.inj h
    exact rs_rP_26
  rcases List.mem_cons.mp h with h | h
  · obtain ⟨rfl, rfl⟩ := Prod.mk.inj h
    exact rs_rP_27
  rcases List.mem_cons.mp h with h | h
  · obtain ⟨rfl, rfl⟩ := Prod.mk.inj h
    exact rs_rP_28
  rcases List.mem_cons.mp h with h | h
  · obtain ⟨rfl, rfl⟩ := Prod.mk.inj h
    exact rs_rP_29
  rcases List.mem_cons.mp h with h | h
  · obtain ⟨rfl, rfl⟩ := Prod.mk.inj h
    exact rs_rP_30
  rcases List.mem_cons.mp h with h | h
  · obtain ⟨rfl, rfl⟩ := Prod.mk.inj h
    exact rs_rP_31
  rcases List.mem_cons.mp h with h | h
  · obtain ⟨rfl, rfl⟩ := Prod.mk.inj h
    exact rs_rP_32
  rcases List.mem_cons.mp h with h | h
  · obtain ⟨rfl, rfl⟩ := Prod.mk.inj h
    exact rs_rP_33
  rcases List.mem_cons.mp h with h | h
  · obtain ⟨rfl, rfl⟩ := Prod.mk.inj h
    exact rs_rP_34
  rcases List.mem_cons.mp h with h | h
  · obtain ⟨rfl, rfl⟩ := Prod.mk.inj h
    exact rs_rP_35
  rcases List.mem_cons.mp h with h | h
  · obtain ⟨rfl, rfl⟩ := Prod.mk.inj h
    exact rs_rP_36
  rcases List.mem_cons.mp h with h | h
  · obtain ⟨rfl, rfl⟩ := Prod.mk.inj h
    exact rs_rP_37
  rcases List.mem_cons.mp h with h | h
  · obtain ⟨rfl, rfl⟩ := Prod.mk.inj h
    exact rs_rP_38
  rcases List.mem_cons.mp h with h | h
  · obtain ⟨rfl, rfl⟩ := Prod.mk.inj h
    exact rs_rP_39
  rcases List.mem_cons.mp h with h | h
  · obtain ⟨rfl, rfl⟩ := Prod.mk.inj h
    exact rs_rP_40
  rcases List.mem_cons.mp h with h | h
  · obtain ⟨rfl, rfl⟩ := Prod.mk.inj h
    exact rs_rP_41
  rcases List.mem_cons.mp h with h | h
  · obtain ⟨rfl, rfl⟩ := Prod.mk.inj h
    exact rs_rP_42
  rcases List.mem_cons.mp h with h | h
  · obtain ⟨rfl, rfl⟩ := Prod.mk.inj h
    exact rs_rP_43
  rcases List.mem_cons.mp h with h | h
  · obtain ⟨rfl, rfl⟩ := Prod.mk.inj h
    exact rs_rP_44
  rcases List.mem_cons.mp h with h | h
  · obtain ⟨rfl, rfl⟩ := Prod.mk.inj h
    exact rs_rP_45
  rcases List.mem_cons.mp h with h | h
  · obtain ⟨rfl, rfl⟩ := Prod.mk.inj h
    exact rs_rP_46
  rcases List.mem_cons.mp h with h | h
  · obtain ⟨rfl, rfl⟩ := Prod.mk.inj h
    exact rs_rP_47
  rcases List.mem_cons.mp h with h | h
  · obtain ⟨rfl, rfl⟩ := Prod.mk.inj h
    exact rs_rP_48
  rcases List.mem_cons.mp h with h | h
  · obtain ⟨rfl, rfl⟩ := Prod.mk.inj h
    exact rs_rP_49
  rcases List.mem_cons.mp h with h | h
  · obtain ⟨rfl, rfl⟩ := Prod.mk.inj h
    exact rs_rP_50
  rcases List.mem_cons.mp h with h | h
  · obtain ⟨rfl, rfl⟩ := Prod.mk.inj h
    exact rs_rP_51
  rcases List.mem_cons.mp h with h | h
  · obtain ⟨rfl, rfl⟩ := Prod.mk.inj h
    exact rs_rP_52
  rcases List.mem_cons.mp h with h | h
  · obtain ⟨rfl, rfl⟩ := Prod.mk.inj h
    exact rs_rP_53
  rcases List.mem_cons.mp h with h | h
  · obtain ⟨rfl, rfl⟩ := Prod.mk.inj h
    exact rs_rP_54
  rcases List.mem_cons.mp h with h | h
  · obtain ⟨rfl, rfl⟩ := Prod.mk.inj h
    exact rs_rP_55
  rcases List.mem_cons.mp h with h | h
  · obtain ⟨rfl, rfl⟩ := Prod.mk.inj h
    exact rs_rP_56
  rcases List.mem_cons.mp h with h | h
  · obtain ⟨rfl, rfl⟩ := Prod.mk.inj h
    exact rs_rP_57
  rcases List.mem_cons.mp h with h | h
  · obtain ⟨rfl, rfl⟩ := Prod.mk.inj h
    exact rs_rP_58
  rcases List.mem_cons.mp h with h | h
  · obtain ⟨rfl, rfl⟩ := Prod.mk.inj h
    exact rs_rP_59
  rcases List.mem_cons.mp h with h | h
  · obtain ⟨rfl, rfl⟩ := Prod.mk.inj h
    exact rs_rP_60
  rcases List.mem_cons.mp h with h | h
  · obtain ⟨rfl, rfl⟩ := Prod.mk.inj h
    exact rs_rP_61
  rcases List.mem_cons.mp h with h | h
  · obtain ⟨rfl, rfl⟩ := Prod.mk.inj h
    exact rs_rP_62
  rcases List.mem_cons.mp h with h | h
  · obtain ⟨rfl, rfl⟩ := Prod.mk.inj h
    exact rs_rP_63
  rcases List.mem_cons.mp h with h | h
  · obtain ⟨rfl, rfl⟩ := Prod.mk.inj h
    exact rs_rP_64
  rcases List.mem_cons.mp h with h | h
  · obtain ⟨rfl, rfl⟩ := Prod.mk.inj h
    exact rs_rP_65
  rcases List.mem_cons.mp h with h | h
  · obtain ⟨rfl, rfl⟩ := Prod.mk.inj h
    exact rs_rP_66
  rcases List.mem_cons.mp h with h | h
  · obtain ⟨rfl, rfl⟩ := Prod.mk.inj h
    exact rs_rP_67
  rcases List.mem_cons.mp h with h | h
  · obtain ⟨rfl, rfl⟩ := Prod.mk.inj h
    exact rs_rP_68
  rcases List.mem_cons.mp h with h | h
  · obtain ⟨rfl, rfl⟩ := Prod.mk.inj h
    exact rs_rP_69
  rcases List.mem_cons.mp h with h | h
  · obtain ⟨rfl, rfl⟩ := Prod.mk.inj h
    exact rs_rP_70
  rcases List.mem_cons.mp h with h | h
  · obtain ⟨rfl, rfl⟩ := Prod.mk.inj h
    exact rs_rP_71
  rcases List.mem_cons.mp h with h | h
  · obtain ⟨rfl, rfl⟩ := Prod.mk.inj h
    exact rs_rP_72
  rcases List.mem_cons.mp h with h | h
  · obtain ⟨rfl, rfl⟩ := Prod.mk.inj h
    exact rs_rP_73
  rcases List.mem_cons.mp h with h | h
  · obtain ⟨rfl, rfl⟩ := Prod.mk.inj h
    exact rs_rP_74
  rcases List.mem_cons.mp h with h | h
  · obtain ⟨rfl, rfl⟩ := Prod.mk.inj h
    exact rs_rP_75
  rcases List.mem_cons.mp h with h | h
  · obtain ⟨rfl, rfl⟩ := Prod.mk.inj h
    exact rs_rP_76
  rcases List.mem_cons.mp h with h | h
  · obtain ⟨rfl, rfl⟩ := Prod.mk.inj h
    exact rs_rP_77
  rcases List.mem_cons.mp h with h | h
  · obtain ⟨rfl, rfl⟩ := Prod.mk.inj h
    exact rs_rP_78
  rcases List.mem_cons.mp h with h | h
  · obtain ⟨rfl, rfl⟩ := Prod.mk.inj h
    exact rs_rP_79
  rcases List.mem_cons.mp h with h | h
  · obtain ⟨rfl, rfl⟩ := Prod.mk.inj h
    exact rs_rP_80
  rcases List.mem_cons.mp h with h | h
  · obtain ⟨rfl, rfl⟩ := Prod.mk.inj h
    exact rs_rP_81
  rcases List.mem_cons.mp h with h | h
  · obtain ⟨rfl, rfl⟩ := Prod.mk.inj h
    exact rs_rP_82
  rcases List.mem_cons.mp h with h | h
  · obtain ⟨rfl, rfl⟩ := Prod.mk.inj h
    exact rs_rP_83
  rcases List.mem_cons.mp h with h | h
  · obtain ⟨rfl, rfl⟩ := Prod.mk.inj h
    exact rs_rP_84
  rcases List.mem_cons.mp h with h | h
  · obtain ⟨rfl, rfl⟩ := Prod.mk.inj h
    exact rs_rP_85
  rcases List.mem_cons.mp h with h | h
  · obtain ⟨rfl, rfl⟩ := Prod.mk.inj h
    exact rs_rP_86
  rcases List.mem_cons.mp h with h | h
  · obtain ⟨rfl, rfl⟩ := Prod.mk.inj h
    exact rs_rP_87
  rcases List.mem_cons.mp h with h | h
  · obtain ⟨rfl, rfl⟩ := Prod.mk.inj h
    exact rs_rP_88
  rcases List.mem_cons.mp h with h | h
  · obtain ⟨rfl, rfl⟩ := Prod.mk.inj h
    exact rs_rP_89
  rcases List.mem_cons.mp h with h | h
  · obtain ⟨rfl, rfl⟩ := Prod.mk.inj h
    exact rs_rP_90
  rcases List.mem_cons.mp h with h | h
  · obtain ⟨rfl, rfl⟩ := Prod.mk.inj h
    exact rs_rP_91
  rcases List.mem_cons.mp h with h | h
  · obtain ⟨rfl, rfl⟩ := Prod.mk.inj h
    exact rs_rP_92
  rcases List.mem_cons.mp h with h | h
  · obtain ⟨rfl, rfl⟩ := Prod.mk.inj h
    exact rs_rP_93
  rcases List.mem_cons.mp h with h | h
  · obtain ⟨rfl, rfl⟩ := Prod.mk.inj h
    exact rs_rP_94
  rcases List.mem_cons.mp h with h | h
  · obtain ⟨rfl, rfl⟩ := Prod.mk.inj h
    exact rs_rP_98
  rcases List.mem_cons.mp h with h | h
  · obtain ⟨rfl, rfl⟩ := Prod.mk.inj h
    exact rs_rP_140
  rcases List.mem_cons.mp h with h | h
  · obtain ⟨rfl, rfl⟩ := Prod.mk.inj h
    exact rs_rP_141
  rcases List.mem_cons.mp h with h | h
  · obtain ⟨rfl, rfl⟩ := Prod.mk.inj h
    exact rs_rP_142
  rcases List.mem_cons.mp h with h | h
  · obtain ⟨rfl, rfl⟩ := Prod.mk.inj h
    exact rs_rP_143
  rcases List.mem_cons.mp h with h | h
  · obtain ⟨rfl, rfl⟩ := Prod.mk.inj h
    exact rs_rP_144
  rcases List.mem_cons.mp h with h | h
  · obtain ⟨rfl, rfl⟩ := Prod.mk.inj h
    exact rs_rP_145
  rcases List.mem_cons.mp h with h | h
  · obtain ⟨rfl, rfl⟩ := Prod.mk.inj h
    exact rs_rP_146
  rcases List.mem_cons.mp h with h | h
  · obtain ⟨rfl, rfl⟩ := Prod.mk.inj h
    exact rs_rP_147
  rcases List.mem_cons.mp h with h | h
  · obtain ⟨rfl, rfl⟩ := Prod.mk.inj h
    exact rs_rP_148
  rcases List.mem_cons.mp h with h | h
  · obtain ⟨rfl, rfl⟩ := Prod.mk.inj h
    exact rs_rP_149
  rcases List.mem_cons.mp h with h | h
  · obtain ⟨rfl, rfl⟩ := Prod.mk.inj h
    exact rs_rP_150
  rcases List.mem_cons.mp h with h | h
  · obtain ⟨rfl, rfl⟩ := Prod.mk.inj h
    exact rs_rP_151
  rcases List.mem_cons.mp h with h | h
  · obtain ⟨rfl, rfl⟩ := Prod.mk.inj h
    exact rs_rP_152
  rcases List.mem_cons.mp h with h | h
  · obtain ⟨rfl, rfl⟩ := Prod.mk.inj h
    exact rs_rP_153
  rcases List.mem_cons.mp h with h | h
  · obtain ⟨rfl, rfl⟩ := Prod.mk.inj h
    exact rs_rP_154
  rcases List.mem_cons.mp h with h | h
  · obtain ⟨rfl, rfl⟩ := Prod.mk.inj h
    exact rs_rP_155
  rcases List.mem_cons.mp h with h | h
  · obtain ⟨rfl, rfl⟩ := Prod.mk.inj h
    exact rs_rP_156
  rcases List.mem_cons.mp h with h | h
  · obtain ⟨rfl, rfl⟩ := Prod.mk.inj h
    exact rs_rP_157
  rcases List.mem_cons.mp h with h | h
  · obtain ⟨rfl, rfl⟩ := Prod.mk.inj h
    exact rs_rP_158
  rcases List.mem_cons.mp h with h | h
  · obtain ⟨rfl, rfl⟩ := Prod.mk.inj h
    exact rs_rP_159
  rcases List.mem_cons.mp h with h | h
  · obtain ⟨rfl, rfl⟩ := Prod.mk.inj h
    exact rs_rP_160
  rcases List.mem_cons.mp h with h | h
  · obtain ⟨rfl, rfl⟩ := Prod.mk.inj h
    exact rs_rP_161
  rcases List.mem_cons.mp h with h | h
  · obtain ⟨rfl, rfl⟩ := Prod.mk.inj h
    exact rs_rP_162
  rcases List.mem_cons.mp h with h | h
  · obtain ⟨rfl, rfl⟩ := Prod.mk.inj h
    exact rs_rP_163
  rcases List.mem_cons.mp h with h | h
  · obtain ⟨rfl, rfl⟩ := Prod.mk.inj h
    exact absurd rfl hne
  rcases List.mem_cons.mp h with h | h
  · obtain ⟨rfl, rfl⟩ := Prod.mk.inj h
    exact absurd rfl hne2
  exact absurd h List.not_mem_nil
def ZL_rC : List (Nat × Nat) := ((4, 4) :: (5, 5) :: (6, 6) :: (7, 140) :: (8, 8) :: (9, 9) :: (10, 10) :: (11, 11) :: (12, 12) :: (13, 13) :: (16, 16) :: (17, 17) :: (18, 18) :: (19, 19) :: (20, 20) :: (21, 21) :: (22, 22) :: (23, 23) :: (24, 24) :: (25, 25) :: (26, 26) :: (27, 27) :: (28, 28) :: (29, 29) :: (30, 30) :: (31, 31) :: (32, 32) :: (33, 33) :: (34, 34) :: (35, 35) :: (36, 36) :: (37, 37) :: (38, 38) :: (39, 39) :: (40, 141) :: (41, 142) :: (42, 143) :: (43, 144) :: (44, 145) :: (45, 146) :: (46, 147) :: (47, 148) :: (48, 149) :: (49, 150) :: (50, 151) :: (51, 51) :: (52, 52) :: (53, 53) :: (54, 54) :: (55, 55) :: (56, 56) :: (57, 57) :: (58, 58) :: (59, 59) :: (60, 60) :: (61, 61) :: (62, 62) :: (63, 63) :: (64, 64) :: (65, 65) :: (66, 66) :: (67, 67) :: (68, 68) :: (69, 69) :: (70, 70) :: (71, 71) :: (72, 72) :: (73, 73) :: (74, 74) :: (75, 75) :: (76, 76) :: (77, 77) :: (78, 78) :: (79, 79) :: (80, 80) :: (81, 81) :: (82, 82) :: (83, 83) :: (84, 84) :: (85, 85) :: (86, 86) :: (87, 87) :: (88, 88) :: (89, 89) :: (90, 90) :: (91, 91) :: (92, 92) :: (93, 93) :: (94, 94) :: (98, 98) :: (140, 7) :: (141, 40) :: (142, 41) :: (143, 42) :: (144, 43) :: (145, 44) :: (146, 45) :: (147, 46) :: (148, 47) :: (149, 48) :: (150, 49) :: (151, 50) :: (152, 152) :: (153, 153) :: (154, 154) :: (155, 155) :: (156, 156) :: (157, 157) :: (158, 158) :: (159, 159) :: (160, 160) :: (161, 161) :: (162, 162) :: (163, 163) :: (166, 3) :: (167, 14) :: [])
def zt_rC : Nat → Option Nat := zt ZL_rC
theorem rs_rC_4 {nC nS : Int} : rS zt_rC (SHc nC nS 4) (SHc nC nS 4) := ⟨rfl, rfl, (rE_cons rK_I (rE_cons rK_I (rE_cons rK_I (rE_cons rK_I (rE_cons rK_I (rE_cons rK_I (rE_cons rK_I (rE_cons rK_I rE_nil))))))))⟩
theorem rs_rC_5 {nC nS : Int} : rS zt_rC (SHc nC nS 5) (SHc nC nS 5) := ⟨rfl, rfl, (rE_cons (rK_R (by decide)) (rE_cons (rK_R (by decide)) (rE_cons (rK_R (by decide)) (rE_cons (rK_R (by decide)) (rE_cons (rK_R (by decide)) (rE_cons (rK_R (by decide)) (rE_cons (rK_R (by decide)) (rE_cons (rK_R (by decide)) (rE_cons (rK_R (by decide)) (rE_cons (rK_R (by decide)) (rE_cons (rK_R (by decide)) (rE_cons rK_I (rE_cons rK_I (rE_cons rK_I (rE_cons rK_I rE_nil)))))))))))))))⟩
theorem rs_rC_6 {nC nS : Int} : rS zt_rC (SHc nC nS 6) (SHc nC nS 6) := ⟨rfl, rfl, (rE_cons (rK_R (by decide)) (rE_cons (rK_R (by decide)) (rE_cons (rK_R (by decide)) (rE_cons rK_I (rE_cons rK_I rE_nil)))))⟩
theorem rs_rC_7 {nC nS : Int} : rS zt_rC (SHc nC nS 7) (SHc nC nS 140) := ⟨rfl, rfl, (rE_cons (rK_R (by decide)) (rE_cons (rK_R (by decide)) (rE_cons (rK_R (by decide)) (rE_cons (rK_R (by decide)) (rE_cons (rK_R (by decide)) (rE_cons (rK_R (by decide)) (rE_cons (rK_R (by decide)) (rE_cons (rK_R (by decide)) (rE_cons (rK_R (by decide)) (rE_cons (rK_R (by decide)) (rE_cons (rK_R (by decide)) (rE_cons rK_I (rE_cons rK_I (rE_cons rK_I rE_nil))))))))))))))⟩
theorem rs_rC_8 {nC nS : Int} : rS zt_rC (SHc nC nS 8) (SHc nC nS 8) := ⟨rfl, rfl, (rE_cons (rK_R (by decide)) (rE_cons (rK_R (by decide)) (rE_cons (rK_R (by decide)) (rE_cons (rK_R (by decide)) (rE_cons (rK_R (by decide)) (rE_cons (rK_R (by decide)) (rE_cons (rK_R (by decide)) (rE_cons (rK_R (by decide)) (rE_cons (rK_R (by decide)) (rE_cons (rK_R (by decide)) (rE_cons (rK_R (by decide)) (rE_cons (rK_R (by decide)) (rE_cons rK_I (rE_cons rK_I (rE_cons rK_I (rE_cons rK_I (rE_cons rK_I rE_nil)))))))))))))))))⟩
theorem rs_rC_9 {nC nS : Int} : rS zt_rC (SHc nC nS 9) (SHc nC nS 9) := ⟨rfl, rfl, (rE_cons (rK_R (by decide)) (rE_cons (rK_R (by decide)) (rE_cons rK_I (rE_cons rK_I rE_nil))))⟩
theorem rs_rC_10 {nC nS : Int} : rS zt_rC (SHc nC nS 10) (SHc nC nS 10) := ⟨rfl, rfl, (rE_cons rK_I (rE_cons rK_I (rE_cons rK_I (rE_cons rK_I (rE_cons rK_I (rE_cons rK_I (rE_cons rK_I (rE_cons rK_I (rE_cons rK_I (rE_cons rK_I (rE_cons rK_I (rE_cons rK_I rE_nil))))))))))))⟩
theorem rs_rC_11 {nC nS : Int} : rS zt_rC (SHc nC nS 11) (SHc nC nS 11) := ⟨rfl, rfl, (rE_cons (rK_R (by decide)) (rE_cons (rK_R (by decide)) (rE_cons (rK_R (by decide)) (rE_cons (rK_R (by decide)) (rE_cons (rK_R (by decide)) (rE_cons (rK_R (by decide)) (rE_cons rK_I rE_nil)))))))⟩
theorem rs_rC_12 {nC nS : Int} : rS zt_rC (SHc nC nS 12) (SHc nC nS 12) := ⟨rfl, rfl, (rE_cons (rK_R (by decide)) (rE_cons (rK_R (by decide)) (rE_cons rK_I rE_nil)))⟩
theorem rs_rC_13 {nC nS : Int} : rS zt_rC (SHc nC nS 13) (SHc nC nS 13) := ⟨rfl, rfl, (rE_cons (rK_R (by decide)) (rE_cons (rK_R (by decide)) (rE_cons rK_I (rE_cons rK_I (rE_cons rK_I (rE_cons rK_I (rE_cons rK_I (rE_cons rK_I (rE_cons rK_I (rE_cons rK_I (rE_cons rK_I (rE_cons rK_I rE_nil))))))))))))⟩
theorem rs_rC_16 {nC nS : Int} : rS zt_rC (SHc nC nS 16) (SHc nC nS 16) := ⟨rfl, rfl, (rE_ga rK_I)⟩
theorem rs_rC_17 {nC nS : Int} : rS zt_rC (SHc nC nS 17) (SHc nC nS 17) := ⟨rfl, rfl, (rE_gnb (by decide))⟩
theorem rs_rC_18 {nC nS : Int} : rS zt_rC (SHc nC nS 18) (SHc nC nS 18) := ⟨rfl, rfl, (rE_ga (rK_R (by decide)))⟩
theorem rs_rC_19 {nC nS : Int} : rS zt_rC (SHc nC nS 19) (SHc nC nS 19) := ⟨rfl, rfl, (rE_ga rK_I)⟩
theorem rs_rC_20 {nC nS : Int} : rS zt_rC (SHc nC nS 20) (SHc nC nS 20) := ⟨rfl, rfl, (rE_ga rK_I)⟩
theorem rs_rC_21 {nC nS : Int} : rS zt_rC (SHc nC nS 21) (SHc nC nS 21) := ⟨rfl, rfl, (rE_ga rK_I)⟩
theorem rs_rC_22 {nC nS : Int} : rS zt_rC (SHc nC nS 22) (SHc nC nS 22) := ⟨rfl, rfl, (rE_ga rK_I)⟩
theorem rs_rC_23 {nC nS : Int} : rS zt_rC (SHc nC nS 23) (SHc nC nS 23) := ⟨rfl, rfl, (rE_ga rK_I)⟩
theorem rs_rC_24 {nC nS : Int} : rS zt_rC (SHc nC nS 24) (SHc nC nS 24) := ⟨rfl, rfl, (rE_ga rK_I)⟩
theorem rs_rC_25 {nC nS : Int} : rS zt_rC (SHc nC nS 25) (SHc nC nS 25) := ⟨rfl, rfl, (rE_ga rK_I)⟩
theorem rs_rC_26 {nC nS : Int} : rS zt_rC (SHc nC nS 26) (SHc nC nS 26) := ⟨rfl, rfl, (rE_ga rK_I)⟩
theorem rs_rC_27 {nC nS : Int} : rS zt_rC (SHc nC nS 27) (SHc nC nS 27) := ⟨rfl, rfl, (rE_ga rK_I)⟩
theorem rs_rC_28 {nC nS : Int} : rS zt_rC (SHc nC nS 28) (SHc nC nS 28) := ⟨rfl, rfl, (rE_ga rK_I)⟩
theorem rs_rC_29 {nC nS : Int} : rS zt_rC (SHc nC nS 29) (SHc nC nS 29) := ⟨rfl, rfl, (rE_ga rK_I)⟩
theorem rs_rC_30 {nC nS : Int} : rS zt_rC (SHc nC nS 30) (SHc nC nS 30) := ⟨rfl, rfl, (rE_ga rK_I)⟩
theorem rs_rC_31 {nC nS : Int} : rS zt_rC (SHc nC nS 31) (SHc nC nS 31) := ⟨rfl, rfl, (rE_ga rK_I)⟩
theorem rs_rC_32 {nC nS : Int} : rS zt_rC (SHc nC nS 32) (SHc nC nS 32) := ⟨rfl, rfl, (rE_ga rK_I)⟩
theorem rs_rC_33 {nC nS : Int} : rS zt_rC (SHc nC nS 33) (SHc nC nS 33) := ⟨rfl, rfl, (rE_ga rK_I)⟩
theorem rs_rC_34 {nC nS : Int} : rS zt_rC (SHc nC nS 34) (SHc nC nS 34) := ⟨rfl, rfl, (rE_ga rK_I)⟩
theorem rs_rC_35 {nC nS : Int} : rS zt_rC (SHc nC nS 35) (SHc nC nS 35) := ⟨rfl, rfl, (rE_ga rK_I)⟩
theorem rs_rC_36 {nC nS : Int} : rS zt_rC (SHc nC nS 36) (SHc nC nS 36) := ⟨rfl, rfl, (rE_ga rK_I)⟩
theorem rs_rC_37 {nC nS : Int} : rS zt_rC (SHc nC nS 37) (SHc nC nS 37) := ⟨rfl, rfl, (rE_ga rK_I)⟩
theorem rs_rC_38 {nC nS : Int} : rS zt_rC (SHc nC nS 38) (SHc nC nS 38) := ⟨rfl, rfl, (rE_ga rK_I)⟩
theorem rs_rC_39 {nC nS : Int} : rS zt_rC (SHc nC nS 39) (SHc nC nS 39) := ⟨rfl, rfl, (rE_ga rK_I)⟩
theorem rs_rC_40 {nC nS : Int} : rS zt_rC (SHc nC nS 40) (SHc nC nS 141) := ⟨rfl, rfl, (rE_ga rK_I)⟩
theorem rs_rC_41 {nC nS : Int} : rS zt_rC (SHc nC nS 41) (SHc nC nS 142) := ⟨rfl, rfl, (rE_ga rK_I)⟩
theorem rs_rC_42 {nC nS : Int} : rS zt_rC (SHc nC nS 42) (SHc nC nS 143) := ⟨rfl, rfl, (rE_ga rK_I)⟩
theorem rs_rC_43 {nC nS : Int} : rS zt_rC (SHc nC nS 43) (SHc nC nS 144) := ⟨rfl, rfl, (rE_ga rK_I)⟩
theorem rs_rC_44 {nC nS : Int} : rS zt_rC (SHc nC nS 44) (SHc nC nS 145) := ⟨rfl, rfl, (rE_ga rK_I)⟩
theorem rs_rC_45 {nC nS : Int} : rS zt_rC (SHc nC nS 45) (SHc nC nS 146) := ⟨rfl, rfl, (rE_ga rK_I)⟩
theorem rs_rC_46 {nC nS : Int} : rS zt_rC (SHc nC nS 46) (SHc nC nS 147) := ⟨rfl, rfl, (rE_ga rK_I)⟩
theorem rs_rC_47 {nC nS : Int} : rS zt_rC (SHc nC nS 47) (SHc nC nS 148) := ⟨rfl, rfl, (rE_ga rK_I)⟩
theorem rs_rC_48 {nC nS : Int} : rS zt_rC (SHc nC nS 48) (SHc nC nS 149) := ⟨rfl, rfl, (rE_ga rK_I)⟩
theorem rs_rC_49 {nC nS : Int} : rS zt_rC (SHc nC nS 49) (SHc nC nS 150) := ⟨rfl, rfl, (rE_ga rK_I)⟩
theorem rs_rC_50 {nC nS : Int} : rS zt_rC (SHc nC nS 50) (SHc nC nS 151) := ⟨rfl, rfl, (rE_ga rK_J)⟩
theorem rs_rC_51 {nC nS : Int} : rS zt_rC (SHc nC nS 51) (SHc nC nS 51) := ⟨rfl, rfl, (rE_gnb (by decide))⟩
theorem rs_rC_52 {nC nS : Int} : rS zt_rC (SHc nC nS 52) (SHc nC nS 52) := ⟨rfl, rfl, (rE_ga rK_I)⟩
theorem rs_rC_53 {nC nS : Int} : rS zt_rC (SHc nC nS 53) (SHc nC nS 53) := ⟨rfl, rfl, (rE_ga rK_I)⟩
theorem rs_rC_54 {nC nS : Int} : rS zt_rC (SHc nC nS 54) (SHc nC nS 54) := ⟨rfl, rfl, (rE_ga rK_I)⟩
theorem rs_rC_55 {nC nS : Int} : rS zt_rC (SHc nC nS 55) (SHc nC nS 55) := ⟨rfl, rfl, (rE_ga rK_I)⟩
theorem rs_rC_56 {nC nS : Int} : rS zt_rC (SHc nC nS 56) (SHc nC nS 56) := ⟨rfl, rfl, (rE_ga rK_J)⟩
theorem rs_rC_57 {nC nS : Int} : rS zt_rC (SHc nC nS 57) (SHc nC nS 57) := ⟨rfl, rfl, (rE_ga rK_I)⟩
theorem rs_rC_58 {nC nS : Int} : rS zt_rC (SHc nC nS 58) (SHc nC nS 58) := ⟨rfl, rfl, (rE_ga rK_I)⟩
theorem rs_rC_59 {nC nS : Int} : rS zt_rC (SHc nC nS 59) (SHc nC nS 59) := ⟨rfl, rfl, (rE_ga rK_I)⟩
theorem rs_rC_60 {nC nS : Int} : rS zt_rC (SHc nC nS 60) (SHc nC nS 60) := ⟨rfl, rfl, (rE_ga rK_I)⟩
theorem rs_rC_61 {nC nS : Int} : rS zt_rC (SHc nC nS 61) (SHc nC nS 61) := ⟨rfl, rfl, (rE_ga rK_I)⟩
theorem rs_rC_62 {nC nS : Int} : rS zt_rC (SHc nC nS 62) (SHc nC nS 62) := ⟨rfl, rfl, (rE_ga rK_I)⟩
theorem rs_rC_63 {nC nS : Int} : rS zt_rC (SHc nC nS 63) (SHc nC nS 63) := ⟨rfl, rfl, (rE_ga rK_I)⟩
theorem rs_rC_64 {nC nS : Int} : rS zt_rC (SHc nC nS 64) (SHc nC nS 64) := ⟨rfl, rfl, (rE_ga rK_I)⟩
theorem rs_rC_65 {nC nS : Int} : rS zt_rC (SHc nC nS 65) (SHc nC nS 65) := ⟨rfl, rfl, (rE_ga rK_I)⟩
theorem rs_rC_66 {nC nS : Int} : rS zt_rC (SHc nC nS 66) (SHc nC nS 66) := ⟨rfl, rfl, (rE_ga rK_I)⟩
theorem rs_rC_67 {nC nS : Int} : rS zt_rC (SHc nC nS 67) (SHc nC nS 67) := ⟨rfl, rfl, (rE_ga rK_I)⟩
theorem rs_rC_68 {nC nS : Int} : rS zt_rC (SHc nC nS 68) (SHc nC nS 68) := ⟨rfl, rfl, (rE_ga rK_I)⟩
theorem rs_rC_69 {nC nS : Int} : rS zt_rC (SHc nC nS 69) (SHc nC nS 69) := ⟨rfl, rfl, (rE_ga rK_I)⟩
theorem rs_rC_70 {nC nS : Int} : rS zt_rC (SHc nC nS 70) (SHc nC nS 70) := ⟨rfl, rfl, (rE_ga (rK_R (by decide)))⟩
theorem rs_rC_71 {nC nS : Int} : rS zt_rC (SHc nC nS 71) (SHc nC nS 71) := ⟨rfl, rfl, (rE_ga rK_I)⟩
theorem rs_rC_72 {nC nS : Int} : rS zt_rC (SHc nC nS 72) (SHc nC nS 72) := ⟨rfl, rfl, (rE_ga rK_I)⟩
theorem rs_rC_73 {nC nS : Int} : rS zt_rC (SHc nC nS 73) (SHc nC nS 73) := ⟨rfl, rfl, (rE_ga rK_I)⟩
theorem rs_rC_74 {nC nS : Int} : rS zt_rC (SHc nC nS 74) (SHc nC nS 74) := ⟨rfl, rfl, (rE_ga rK_I)⟩
theorem rs_rC_75 {nC nS : Int} : rS zt_rC (SHc nC nS 75) (SHc nC nS 75) := ⟨rfl, rfl, (rE_ga rK_I)⟩
theorem rs_rC_76 {nC nS : Int} : rS zt_rC (SHc nC nS 76) (SHc nC nS 76) := ⟨rfl, rfl, (rE_ga rK_I)⟩
theorem rs_rC_77 {nC nS : Int} : rS zt_rC (SHc nC nS 77) (SHc nC nS 77) := ⟨rfl, rfl, (rE_ga rK_I)⟩
theorem rs_rC_78 {nC nS : Int} : rS zt_rC (SHc nC nS 78) (SHc nC nS 78) := ⟨rfl, rfl, (rE_ga rK_I)⟩
theorem rs_rC_79 {nC nS : Int} : rS zt_rC (SHc nC nS 79) (SHc nC nS 79) := ⟨rfl, rfl, (rE_ga rK_I)⟩
theorem rs_rC_80 {nC nS : Int} : rS zt_rC (SHc nC nS 80) (SHc nC nS 80) := ⟨rfl, rfl, (rE_ga rK_I)⟩
theorem rs_rC_81 {nC nS : Int} : rS zt_rC (SHc nC nS 81) (SHc nC nS 81) := ⟨rfl, rfl, (rE_ga rK_I)⟩
theorem rs_rC_82 {nC nS : Int} : rS zt_rC (SHc nC nS 82) (SHc nC nS 82) := ⟨rfl, rfl, (rE_ga rK_I)⟩
theorem rs_rC_83 {nC nS : Int} : rS zt_rC (SHc nC nS 83) (SHc nC nS 83) := ⟨rfl, rfl, (rE_ga rK_I)⟩
theorem rs_rC_84 {nC nS : Int} : rS zt_rC (SHc nC nS 84) (SHc nC nS 84) := ⟨rfl, rfl, (rE_ga rK_I)⟩
theorem rs_rC_85 {nC nS : Int} : rS zt_rC (SHc nC nS 85) (SHc nC nS 85) := ⟨rfl, rfl, (rE_ga rK_I)⟩
theorem rs_rC_86 {nC nS : Int} : rS zt_rC (SHc nC nS 86) (SHc nC nS 86) := ⟨rfl, rfl, (rE_ga rK_I)⟩
theorem rs_rC_87 {nC nS : Int} : rS zt_rC (SHc nC nS 87) (SHc nC nS 87) := ⟨rfl, rfl, (rE_ga rK_I)⟩
theorem rs_rC_88 {nC nS : Int} : rS zt_rC (SHc nC nS 88) (SHc nC nS 88) := ⟨rfl, rfl, (rE_ga rK_I)⟩
theorem rs_rC_89 {nC nS : Int} : rS zt_rC (SHc nC nS 89) (SHc nC nS 89) := ⟨rfl, rfl, (rE_ga rK_I)⟩
theorem rs_rC_90 {nC nS : Int} : rS zt_rC (SHc nC nS 90) (SHc nC nS 90) := ⟨rfl, rfl, (rE_cons (rK_R (by decide)) (rE_cons (rK_R (by decide)) (rE_cons (rK_R (by decide)) (rE_cons rK_I (rE_cons rK_I rE_nil)))))⟩
theorem rs_rC_91 {nC nS : Int} : rS zt_rC (SHc nC nS 91) (SHc nC nS 91) := ⟨rfl, rfl, (rE_cons (rK_R (by decide)) (rE_cons (rK_R (by decide)) (rE_cons (rK_R (by decide)) (rE_cons (rK_R (by decide)) (rE_cons (rK_R (by decide)) (rE_cons (rK_R (by decide)) (rE_cons rK_I rE_nil)))))))⟩
theorem rs_rC_92 {nC nS : Int} : rS zt_rC (SHc nC nS 92) (SHc nC nS 92) := ⟨rfl, rfl, (rE_cons (rK_R (by decide)) (rE_cons (rK_R (by decide)) (rE_cons rK_I rE_nil)))⟩
theorem rs_rC_93 {nC nS : Int} : rS zt_rC (SHc nC nS 93) (SHc nC nS 93) := ⟨rfl, rfl, (rE_cons (rK_R (by decide)) (rE_cons (rK_R (by decide)) (rE_cons (rK_R (by decide)) (rE_cons (rK_R (by decide)) (rE_cons (rK_R (by decide)) (rE_cons (rK_R (by decide)) (rE_cons (rK_R (by decide)) (rE_cons (rK_R (by decide)) (rE_cons (rK_R (by decide)) (rE_cons (rK_R (by decide)) (rE_cons (rK_R (by decide)) (rE_cons rK_I (rE_cons rK_I (rE_cons rK_I (rE_cons rK_I rE_nil)))))))))))))))⟩
theorem rs_rC_94 {nC nS : Int} : rS zt_rC (SHc nC nS 94) (SHc nC nS 94) := ⟨rfl, rfl, (rE_cons (rK_R (by decide)) (rE_cons (rK_R (by decide)) (rE_cons rK_I (rE_cons rK_I (rE_cons rK_I (rE_cons rK_I (rE_cons rK_I (rE_cons rK_I (rE_cons rK_I (rE_cons rK_I (rE_cons rK_I (rE_cons rK_I rE_nil))))))))))))⟩
theorem rs_rC_98 {nC nS : Int} : rS zt_rC (SHc nC nS 98) (SHc nC nS 98) := ⟨rfl, rfl, (rE_ga rK_J)⟩
theorem rs_rC_140 {nC nS : Int} : rS zt_rC (SHc nC nS 140) (SHc nC nS 7) := ⟨rfl, rfl, (rE_cons (rK_R (by decide)) (rE_cons (rK_R (by decide)) (rE_cons (rK_R (by decide)) (rE_cons (rK_R (by decide)) (rE_cons (rK_R (by decide)) (rE_cons (rK_R (by decide)) (rE_cons (rK_R (by decide)) (rE_cons (rK_R (by decide)) (rE_cons (rK_R (by decide)) (rE_cons (rK_R (by decide)) (rE_cons (rK_R (by decide)) (rE_cons rK_I (rE_cons rK_I (rE_cons rK_I rE_nil))))))))))))))⟩
theorem rs_rC_141 {nC nS : Int} : rS zt_rC (SHc nC nS 141) (SHc nC nS 40) := ⟨rfl, rfl, (rE_ga rK_I)⟩
theorem rs_rC_142 {nC nS : Int} : rS zt_rC (SHc nC nS 142) (SHc nC nS 41) := ⟨rfl, rfl, (rE_ga rK_I)⟩
theorem rs_rC_143 {nC nS : Int} : rS zt_rC (SHc nC nS 143) (SHc nC nS 42) := ⟨rfl, rfl, (rE_ga rK_I)⟩
theorem rs_rC_144 {nC nS : Int} : rS zt_rC (SHc nC nS 144) (SHc nC nS 43) := ⟨rfl, rfl, (rE_ga rK_I)⟩
theorem rs_rC_145 {nC nS : Int} : rS zt_rC (SHc nC nS 145) (SHc nC nS 44) := ⟨rfl, rfl, (rE_ga rK_I)⟩
theorem rs_rC_146 {nC nS : Int} : rS zt_rC (SHc nC nS 146) (SHc nC nS 45) := ⟨rfl, rfl, (rE_ga rK_I)⟩
theorem rs_rC_147 {nC nS : Int} : rS zt_rC (SHc nC nS 147) (SHc nC nS 46) := ⟨rfl, rfl, (rE_ga rK_I)⟩
theorem rs_rC_148 {nC nS : Int} : rS zt_rC (SHc nC nS 148) (SHc nC nS 47) := ⟨rfl, rfl, (rE_ga rK_I)⟩
theorem rs_rC_149 {nC nS : Int} : rS zt_rC (SHc nC nS 149) (SHc nC nS 48) := ⟨rfl, rfl, (rE_ga rK_I)⟩
theorem rs_rC_150 {nC nS : Int} : rS zt_rC (SHc nC nS 150) (SHc nC nS 49) := ⟨rfl, rfl, (rE_ga rK_I)⟩
theorem rs_rC_151 {nC nS : Int} : rS zt_rC (SHc nC nS 151) (SHc nC nS 50) := ⟨rfl, rfl, (rE_ga rK_J)⟩
theorem rs_rC_152 {nC nS : Int} : rS zt_rC (SHc nC nS 152) (SHc nC nS 152) := ⟨rfl, rfl, (rE_cons (rK_R (by decide)) (rE_cons (rK_R (by decide)) (rE_cons (rK_R (by decide)) (rE_cons (rK_R (by decide)) (rE_cons (rK_R (by decide)) (rE_cons (rK_R (by decide)) (rE_cons (rK_R (by decide)) (rE_cons (rK_R (by decide)) (rE_cons (rK_R (by decide)) (rE_cons (rK_R (by decide)) (rE_cons (rK_R (by decide)) (rE_cons rK_I (rE_cons rK_I (rE_cons rK_I rE_nil))))))))))))))⟩
theorem rs_rC_153 {nC nS : Int} : rS zt_rC (SHc nC nS 153) (SHc nC nS 153) := ⟨rfl, rfl, (rE_ga rK_I)⟩
theorem rs_rC_154 {nC nS : Int} : rS zt_rC (SHc nC nS 154) (SHc nC nS 154) := ⟨rfl, rfl, (rE_ga rK_I)⟩
theorem rs_rC_155 {nC nS : Int} : rS zt_rC (SHc nC nS 155) (SHc nC nS 155) := ⟨rfl, rfl, (rE_ga rK_I)⟩
theorem rs_rC_156 {nC nS : Int} : rS zt_rC (SHc nC nS 156) (SHc nC nS 156) := ⟨rfl, rfl, (rE_ga rK_I)⟩
theorem rs_rC_157 {nC nS : Int} : rS zt_rC (SHc nC nS 157) (SHc nC nS 157) := ⟨rfl, rfl, (rE_ga rK_I)⟩
theorem rs_rC_158 {nC nS : Int} : rS zt_rC (SHc nC nS 158) (SHc nC nS 158) := ⟨rfl, rfl, (rE_ga rK_I)⟩
theorem rs_rC_159 {nC nS : Int} : rS zt_rC (SHc nC nS 159) (SHc nC nS 159) := ⟨rfl, rfl, (rE_ga rK_I)⟩
theorem rs_rC_160 {nC nS : Int} : rS zt_rC (SHc nC nS 160) (SHc nC nS 160) := ⟨rfl, rfl, (rE_ga rK_I)⟩
theorem rs_rC_161 {nC nS : Int} : rS zt_rC (SHc nC nS 161) (SHc nC nS 161) := ⟨rfl, rfl, (rE_ga rK_I)⟩
theorem rs_rC_162 {nC nS : Int} : rS zt_rC (SHc nC nS 162) (SHc nC nS 162) := ⟨rfl, rfl, (rE_ga rK_I)⟩
theorem rs_rC_163 {nC nS : Int} : rS zt_rC (SHc nC nS 163) (SHc nC nS 163) := ⟨rfl, rfl, (rE_ga rK_J)⟩
set_option maxRecDepth 100000 in
theorem rs_rC {nC nS : Int} : ∀ t u, t ≠ 166 → t ≠ 167 → zt_rC t = some u → rS zt_rC (SHc nC nS t) (SHc nC nS u) := by
  intro t u hne hne2 h
  have h := zt_m h
  rcases List.mem_cons.mp h with h | h
  · obtain ⟨rfl, rfl⟩ := Prod.mk.inj h
    exact rs_rC_4
  rcases List.mem_cons.mp h with h | h
  · obtain ⟨rfl, rfl⟩ := Prod.mk.inj h
    exact rs_rC_5
  rcases List.mem_cons.mp h with h | h
  · obtain ⟨rfl, rfl⟩ := Prod.mk.inj h
    exact rs_rC_6
  rcases List.mem_cons.mp h with h | h
  · obtain ⟨rfl, rfl⟩ := Prod.mk.inj h
    exact rs_rC_7
  rcases List.mem_cons.mp h with h | h
  · obtain ⟨rfl, rfl⟩ := Prod.mk.inj h
    exact rs_rC_8
  rcases List.mem_cons.mp h with h | h
  · obtain ⟨rfl, rfl⟩ := Prod.mk.inj h
    exact rs_rC_9
  rcases List.mem_cons.mp h with h | h
  · obtain ⟨rfl, rfl⟩ := Prod.mk.inj h
    exact rs_rC_10
  rcases List.mem_cons.mp h with h | h
  · obtain ⟨rfl, rfl⟩ := Prod.mk.inj h
    exact rs_rC_11
  rcases List.mem_cons.mp h with h | h
  · obtain ⟨rfl, rfl⟩ := Prod.mk.inj h
    exact rs_rC_12
  rcases List.mem_cons.mp h with h | h
  · obtain ⟨rfl, rfl⟩ := Prod.mk.inj h
    exact rs_rC_13
  rcases List.mem_cons.mp h with h | h
  · obtain ⟨rfl, rfl⟩ := Prod.mk.inj h
    exact rs_rC_16
  rcases List.mem_cons.mp h with h | h
  · obtain ⟨rfl, rfl⟩ := Prod.mk.inj h
    exact rs_rC_17
  rcases List.mem_cons.mp h with h | h
  · obtain ⟨rfl, rfl⟩ := Prod.mk.inj h
    exact rs_rC_18
  rcases List.mem_cons.mp h with h | h
  · obtain ⟨rfl, rfl⟩ := Prod.mk.inj h
    exact rs_rC_19
  rcases List.mem_cons.mp h with h | h
  · obtain ⟨rfl, rfl⟩ := Prod.mk.inj h
    exact rs_rC_20
  rcases List.mem_cons.mp h with h | h
  · obtain ⟨rfl, rfl⟩ := Prod.mk.inj h
    exact rs_rC_21
  rcases List.mem_cons.mp h with h | h
  · obtain ⟨rfl, rfl⟩ := Prod.mk.inj h
    exact rs_rC_22
  rcases List.mem_cons.mp h with h | h
  · obtain ⟨rfl, rfl⟩ := Prod.mk.inj h
    exact rs_rC_23
  rcases List.mem_cons.mp h with h | h
  · obtain ⟨rfl, rfl⟩ := Prod.mk.inj h
    exact rs_rC_24
  rcases List.mem_cons.mp h with h | h
  · obtain ⟨rfl, rfl⟩ := Prod.mk.inj h
    exact rs_rC_25
  rcases List.mem_cons.mp h with h | h
  · obtain ⟨rfl, rfl⟩ := Prod.mk.inj h
    exact rs_rC_26
  rcases List.mem_cons.mp h with h | h
  · obtain ⟨rfl, rfl⟩ := Prod.mk.inj h
    exact rs_rC_27
  rcases List.mem_cons.mp h with h | h
  · obtain ⟨rfl, rfl⟩ := Prod.mk.inj h
    exact rs_rC_28
  rcases List.mem_cons.mp h with h | h
  · obtain ⟨rfl, rfl⟩ := Prod.mk.inj h
    exact rs_rC_29
  rcases List.mem_cons.mp h with h | h
  · obtain ⟨rfl, rfl⟩ := Prod.mk.inj h
    exact rs_rC_30
  rcases List.mem_cons.mp h with h | h
  · obtain ⟨rfl, rfl⟩ := Prod.mk.inj h
    exact rs_rC_31
  rcases List.mem_cons.mp h with h | h
  · obtain ⟨rfl, rfl⟩ := Prod.mk.inj h
    exact rs_rC_32
  rcases List.mem_cons.mp h with h | h
  · obtain ⟨rfl, rfl⟩ := Prod.mk.inj h
    exact rs_rC_33
  rcases List.mem_cons.mp h with h | h
  · obtain ⟨rfl, rfl⟩ := Prod.mk.inj h
    exact rs_rC_34
  rcases List.mem_cons.mp h with h | h
  · obtain ⟨rfl, rfl⟩ := Prod.mk.inj h
    exact rs_rC_35
  rcases List.mem_cons.mp h with h | h
  · obtain ⟨rfl, rfl⟩ := Prod.mk.inj h
    exact rs_rC_36
  rcases List.mem_cons.mp h with h | h
  · obtain ⟨rfl, rfl⟩ := Prod.mk.inj h
    exact rs_rC_37
  rcases List.mem_cons.mp h with h | h
  · obtain ⟨rfl, rfl⟩ := Prod.mk.inj h
    exact rs_rC_38
  rcases List.mem_cons.mp h with h | h
  · obtain ⟨rfl, rfl⟩ := Prod.mk.inj h
    exact rs_rC_39
  rcases List.mem_cons.mp h with h | h
  · obtain ⟨rfl, rfl⟩ := Prod.mk.inj h
    exact rs_rC_40
  rcases List.mem_cons.mp h with h | h
  · obtain ⟨rfl, rfl⟩ := Prod.mk.inj h
    exact rs_rC_41
  rcases List.mem_cons.mp h with h | h
  · obtain ⟨rfl, rfl⟩ := Prod.mk.inj h
    exact rs_rC_42
  rcases List.mem_cons.mp h with h | h
  · obtain ⟨rfl, rfl⟩ := Prod.mk.inj h
    exact rs_rC_43
  rcases List.mem_cons.mp h with h | h
  · obtain ⟨rfl, rfl⟩ := Prod.mk.inj h
    exact rs_rC_44
  rcases List.mem_cons.mp h with h | h
  · obtain ⟨rfl, rfl⟩ := Prod.mk.inj h
    exact rs_rC_45
  rcases List.mem_cons.mp h with h | h
  · obtain ⟨rfl, rfl⟩ := Prod.mk.inj h
    exact rs_rC_46
  rcases List.mem_cons.mp h with h | h
  · obtain ⟨rfl, rfl⟩ := Prod.mk.inj h
    exact rs_rC_47
  rcases List.mem_cons.mp h with h | h
  · obtain ⟨rfl, rfl⟩ := Prod.mk.inj h
    exact rs_rC_48
  rcases List.mem_cons.mp h with h | h
  · obtain ⟨rfl, rfl⟩ := Prod.mk.inj h
    exact rs_rC_49
  rcases List.mem_cons.mp h with h | h
  · obtain ⟨rfl, rfl⟩ := Prod.mk.inj h
    exact rs_rC_50
  rcases List.mem_cons.mp h with h | h
  · obtain ⟨rfl, rfl⟩ := Prod.mk.inj h
    exact rs_rC_51
  rcases List.mem_cons.mp h with h | h
  · obtain ⟨rfl, rfl⟩ := Prod.mk.inj h
    exact rs_rC_52
  rcases List.mem_cons.mp h with h | h
  · obtain ⟨rfl, rfl⟩ := Prod.mk.inj h
    exact rs_rC_53
  rcases List.mem_cons.mp h with h | h
  · obtain ⟨rfl, rfl⟩ := Prod.mk.inj h
    exact rs_rC_54
  rcases List.mem_cons.mp h with h | h
  · obtain ⟨rfl, rfl⟩ := Prod.mk.inj h
    exact rs_rC_55
  rcases List.mem_cons.mp h with h | h
  · obtain ⟨rfl, rfl⟩ := Prod.mk.inj h
    exact rs_rC_56
  rcases List.mem_cons.mp h with h | h
  · obtain ⟨rfl, rfl⟩ := Prod.mk.inj h
    exact rs_rC_57
  rcases List.mem_cons.mp h with h | h
  · obtain ⟨rfl, rfl⟩ := Prod.mk.inj h
    exact rs_rC_58
  rcases List.mem_cons.mp h with h | h
  · obtain ⟨rfl, rfl⟩ := Prod.mk.inj h
    exact rs_rC_59
  rcases List.mem_cons.mp h with h | h
  · obtain ⟨rfl, rfl⟩ := Prod.mk.inj h
    exact rs_rC_60
  rcases List.mem_cons.mp h with h | h
  · obtain ⟨rfl, rfl⟩ := Prod.mk.inj h
    exact rs_rC_61
  rcases List.mem_cons.mp h with h | h
  · obtain ⟨rfl, rfl⟩ := Prod.mk.inj h
    exact rs_rC_62
  rcases List.mem_cons.mp h with h | h
  · obtain ⟨rfl, rfl⟩ := Prod.mk.inj h
    exact rs_rC_63
  rcases List.mem_cons.mp h with h | h
  · obtain ⟨rfl, rfl⟩ := Prod.mk.inj h
    exact rs_rC_64
  rcases List.mem_cons.mp h with h | h
  · obtain ⟨rfl, rfl⟩ := Prod.mk.inj h
    exact rs_rC_65
  rcases List.mem_cons.mp h with h | h
  · obtain ⟨rfl, rfl⟩ := Prod.mk.inj h
    exact rs_rC_66
  rcases List.mem_cons.mp h with h | h
  · obtain ⟨rfl, rfl⟩ := Prod.mk.inj h
    exact rs_rC_67
  rcases List.mem_cons.mp h with h | h
  · obtain ⟨rfl, rfl⟩ := Prod.mk.inj h
    exact rs_rC_68
  rcases List.mem_cons.mp h with h | h
  · obtain ⟨rfl, rfl⟩ := Prod.mk.inj h
    exact rs_rC_69
  rcases List.mem_cons.mp h with h | h
  · obtain ⟨rfl, rfl⟩ := Prod.mk.inj h
    exact rs_rC_70
  rcases List.mem_cons.mp h with h | h
  · obtain ⟨rfl, rfl⟩ := Prod.mk.inj h
    exact rs_rC_71
  rcases List.mem_cons.mp h with h | h
  · obtain ⟨rfl, rfl⟩ := Prod.mk.inj h
    exact rs_rC_72
  rcases List.mem_cons.mp h with h | h
  · obtain ⟨rfl, rfl⟩ := Prod.mk.inj h
    exact rs_rC_73
  rcases List.mem_cons.mp h with h | h
  · obtain ⟨rfl, rfl⟩ := Prod.mk.inj h
    exact rs_rC_74
  rcases List.mem_cons.mp h with h | h
  · obtain ⟨rfl, rfl⟩ := Prod.mk.inj h
    exact rs_rC_75
  rcases List.mem_cons.mp h with h | h
  · obtain ⟨rfl, rfl⟩ := Prod.mk.inj h
    exact rs_rC_76
  rcases List.mem_cons.mp h with h | h
  · obtain ⟨rfl, rfl⟩ := Prod.mk.inj h
    exact rs_rC_77
  rcases List.mem_cons.mp h with h | h
  · obtain ⟨rfl, rfl⟩ := Prod.mk.inj h
    exact rs_rC_78
  rcases List.mem_cons.mp h with h | h
  · obtain ⟨rfl, rfl⟩ := Prod.mk.inj h
    exact rs_rC_79
  rcases List.mem_cons.mp h with h | h
  · obtain ⟨rfl, rfl⟩ := Prod.mk.inj h
    exact rs_rC_80
  rcases List.mem_cons.mp h with h | h
  · obtain ⟨rfl, rfl⟩ := Prod.mk.inj h
    exact rs_rC_81
  rcases List.mem_cons.mp h with h | h
  · obtain ⟨rfl, rfl⟩ := Prod.mk.inj h
    exact rs_rC_82
  rcases List.mem_cons.mp h with h | h
  · obtain ⟨rfl, rfl⟩ := Prod.mk.inj h
    exact rs_rC_83
  rcases List.mem_cons.mp h with h | h
  · obtain ⟨rfl, rfl⟩ := Prod.mk.inj h
    exact rs_rC_84
  rcases List.mem_cons.mp h with h | h
  · obtain ⟨rfl, rfl⟩ := Prod.mk.inj h
    exact rs_rC_85
  rcases List.mem_cons.mp h with h | h
  · obtain ⟨rfl, rfl⟩ := Prod.mk.inj h
    exact rs_rC_86
  rcases List.mem_cons.mp h with h | h
  · obtain ⟨rfl, rfl⟩ := Prod.mk.inj h
    exact rs_rC_87
  rcases List.mem_cons.mp h with h | h
  · obtain ⟨rfl, rfl⟩ := Prod.mk.inj h
    exact rs_rC_88
  rcases List.mem_cons.mp h with h | h
  · obtain ⟨rfl, rfl⟩ := Prod.mk.inj h
    exact rs_rC_89
  rcases List.mem_cons.mp h with h | h
  · obtain ⟨rfl, rfl⟩ := Prod.mk.inj h
    exact rs_rC_90
  rcases List.mem_cons.mp h with h | h
  · obtain ⟨rfl, rfl⟩ := Prod.mk.inj h
    exact rs_rC_91
  rcases List.mem_cons.mp h with h | h
  · obtain ⟨rfl, rfl⟩ := Prod.mk.inj h
    exact rs_rC_92
  rcases List.mem_cons.mp h with h | h
  · obtain ⟨rfl, rfl⟩ := Prod.mk.inj h
    exact rs_rC_93
  rcases List.mem_cons.mp h with h | h
  · obtain ⟨rfl, rfl⟩ := Prod.mk.inj h
    exact rs_rC_94
  rcases List.mem_cons.mp h with h | h
  · obtain ⟨rfl, rfl⟩ := Prod.mk.inj h
    exact rs_rC_98
  rcases List.mem_cons.mp h with h | h
  · obtain ⟨rfl, rfl⟩ := Prod.mk.inj h
    exact rs_rC_140
  rcases List.mem_cons.mp h with h | h
  · obtain ⟨rfl, rfl⟩ := Prod.mk.inj h
    exact rs_rC_141
  rcases List.mem_cons.mp h with h | h
  · obtain ⟨rfl, rfl⟩ := Prod.mk.inj h
    exact rs_rC_142
  rcases List.mem_cons.mp h with h | h
  · obtain ⟨rfl, rfl⟩ := Prod.mk.inj h
    exact rs_rC_143
  rcases List.mem_cons.mp h with h | h
  · obtain ⟨rfl, rfl⟩ := Prod.mk.inj h
    exact rs_rC_144
  rcases List.mem_cons.mp h with h | h
  · obtain ⟨rfl, rfl⟩ := Prod.mk.inj h
    exact rs_rC_145
  rcases List.mem_cons.mp h with h | h
  · obtain ⟨rfl, rfl⟩ := Prod.mk.inj h
    exact rs_rC_146
  rcases List.mem_cons.mp h with h | h
  · obtain ⟨rfl, rfl⟩ := Prod.mk.inj h
    exact rs_rC_147
  rcases List.mem_cons.mp h with h | h
  · obtain ⟨rfl, rfl⟩ := Prod.mk.inj h
    exact rs_rC_148
  rcases List.mem_cons.mp h with h | h
  · obtain ⟨rfl, rfl⟩ := Prod.mk.inj h
    exact rs_rC_149
  rcases List.mem_cons.mp h with h | h
  · obtain ⟨rfl, rfl⟩ := Prod.mk.inj h
    exact rs_rC_150
  rcases List.mem_cons.mp h with h | h
  · obtain ⟨rfl, rfl⟩ := Prod.mk.inj h
    exact rs_rC_151
  rcases List.mem_cons.mp h with h | h
  · obtain ⟨rfl, rfl⟩ := Prod.mk.inj h
    exact rs_rC_152
  rcases List.mem_cons.mp h with h | h
  · obtain ⟨rfl, rfl⟩ := Prod.mk.inj h
    exact rs_rC_153
  rcases List.mem_cons.mp h with h | h
  · obtain ⟨rfl, rfl⟩ := Prod.mk.inj h
    exact rs_rC_154
  rcases List.mem_cons.mp h with h | h
  · obtain ⟨rfl, rfl⟩ := Prod.mk.inj h
    exact rs_rC_155
  rcases List.mem_cons.mp h with h | h
  · obtain ⟨rfl, rfl⟩ := Prod.mk.inj h
    exact rs_rC_156
  rcases List.mem_cons.mp h with h | h
  · obtain ⟨rfl, rfl⟩ := Prod.mk.inj h
    exact rs_rC_157
  rcases List.mem_cons.mp h with h | h
  · obtain ⟨rfl, rfl⟩ := Prod.mk.inj h
    exact rs_rC_158
  rcases List.mem_cons.mp h with h | h
  · obtain ⟨rfl, rfl⟩ := Prod.mk.inj h
    exact rs_rC_159
  rcases List.mem_cons.mp h with h | h
  · obtain ⟨rfl, rfl⟩ := Prod.mk.inj h
    exact rs_rC_160
  rcases List.mem_cons.mp h with h | h
  · obtain ⟨rfl, rfl⟩ := Prod.mk.inj h
    exact rs_rC_161
  rcases List.mem_cons.mp h with h | h
  · obtain ⟨rfl, rfl⟩ := Prod.mk.inj h
    exact rs_rC_162
  rcases List.mem_cons.mp h with h | h
  · obtain ⟨rfl, rfl⟩ := Prod.mk.inj h
    exact rs_rC_163
  rcases List.mem_cons.mp h with h | h
  · obtain ⟨rfl, rfl⟩ := Prod.mk.inj h
    exact absurd rfl hne
  rcases List.mem_cons.mp h with h | h
  · obtain ⟨rfl, rfl⟩ := Prod.mk.inj h
    exact absurd rfl hne2
  exact absurd h List.not_mem_nil
def ZL_fl : List (Nat × Nat) := ((3, 3) :: (4, 4) :: (5, 5) :: (6, 6) :: (7, 7) :: (8, 8) :: (9, 9) :: (10, 10) :: (11, 11) :: (12, 12) :: (13, 13) :: (14, 14) :: (16, 16) :: (17, 17) :: (18, 18) :: (19, 19) :: (20, 20) :: (21, 21) :: (22, 22) :: (23, 23) :: (24, 24) :: (25, 25) :: (26, 26) :: (27, 27) :: (28, 28) :: (29, 29) :: (30, 30) :: (31, 31) :: (32, 32) :: (33, 33) :: (34, 34) :: (35, 35) :: (36, 36) :: (37, 37) :: (38, 38) :: (39, 39) :: (40, 40) :: (41, 41) :: (42, 42) :: (43, 43) :: (44, 44) :: (45, 45) :: (46, 46) :: (47, 47) :: (48, 48) :: (49, 49) :: (50, 50) :: (51, 51) :: (52, 52) :: (53, 53) :: (54, 54) :: (55, 55) :: (56, 56) :: (57, 57) :: (58, 58) :: (59, 59) :: (60, 60) :: (61, 61) :: (62, 62) :: (63, 63) :: (64, 64) :: (65, 65) :: (66, 66) :: (67, 67) :: (68, 68) :: (69, 69) :: (70, 70) :: (71, 71) :: (72, 72) :: (73, 73) :: (74, 74) :: (75, 75) :: (76, 76) :: (77, 77) :: (78, 78) :: (79, 79) :: (80, 80) :: (81, 81) :: (82, 82) :: (83, 83) :: (84, 84) :: (85, 85) :: (86, 86) :: (87, 87) :: (88, 88) :: (89, 89) :: (90, 90) :: (91, 91) :: (92, 92) :: (93, 93) :: (94, 94) :: (98, 98) :: (140, 140) :: (141, 141) :: (142, 142) :: (143, 143) :: (144, 144) :: (145, 145) :: (146, 146) :: (147, 147) :: (148, 148) :: (149, 149) :: (150, 150) :: (151, 151) :: (152, 152) :: (153, 153) :: (154, 154) :: (155, 155) :: (156, 156) :: (157, 157) :: (158, 158) :: (159, 159) :: (160, 160) :: (161, 161) :: (162, 162) :: (163, 163) :: [])
def zt_fl : Nat → Option Nat := zt ZL_fl
theorem rs_fl_3 {nC nS : Int} : rS zt_fl (SHc nC nS 3) (SHc nC nS 3) := ⟨rfl, rfl, (rE_cons (rK_R (by decide)) (rE_cons (rK_R (by decide)) (rE_cons (rK_R (by decide)) (rE_cons (rK_R (by decide)) (rE_cons (rK_R (by decide)) (rE_cons (rK_R (by decide)) (rE_cons (rK_R (by decide)) (rE_cons (rK_R (by decide)) (rE_cons (rK_R (by decide)) (rE_cons (rK_R (by decide)) (rE_cons rK_I (rE_cons rK_I (rE_cons rK_J (rE_cons rK_J (rE_cons rK_I (rE_cons rK_I (rE_cons rK_I (rE_cons rK_I rE_nil))))))))))))))))))⟩
theorem rs_fl_4 {nC nS : Int} : rS zt_fl (SHc nC nS 4) (SHc nC nS 4) := ⟨rfl, rfl, (rE_cons rK_I (rE_cons rK_I (rE_cons rK_I (rE_cons rK_I (rE_cons rK_I (rE_cons rK_I (rE_cons rK_I (rE_cons rK_I rE_nil))))))))⟩
theorem rs_fl_5 {nC nS : Int} : rS zt_fl (SHc nC nS 5) (SHc nC nS 5) := ⟨rfl, rfl, (rE_cons (rK_R (by decide)) (rE_cons (rK_R (by decide)) (rE_cons (rK_R (by decide)) (rE_cons (rK_R (by decide)) (rE_cons (rK_R (by decide)) (rE_cons (rK_R (by decide)) (rE_cons (rK_R (by decide)) (rE_cons (rK_R (by decide)) (rE_cons (rK_R (by decide)) (rE_cons (rK_R (by decide)) (rE_cons (rK_R (by decide)) (rE_cons rK_I (rE_cons rK_I (rE_cons rK_I (rE_cons rK_I rE_nil)))))))))))))))⟩
theorem rs_fl_6 {nC nS : Int} : rS zt_fl (SHc nC nS 6) (SHc nC nS 6) := ⟨rfl, rfl, (rE_cons (rK_R (by decide)) (rE_cons (rK_R (by decide)) (rE_cons (rK_R (by decide)) (rE_cons rK_I (rE_cons rK_I rE_nil)))))⟩
theorem rs_fl_7 {nC nS : Int} : rS zt_fl (SHc nC nS 7) (SHc nC nS 7) := ⟨rfl, rfl, (rE_cons (rK_R (by decide)) (rE_cons (rK_R (by decide)) (rE_cons (rK_R (by decide)) (rE_cons (rK_R (by decide)) (rE_cons (rK_R (by decide)) (rE_cons (rK_R (by decide)) (rE_cons (rK_R (by decide)) (rE_cons (rK_R (by decide)) (rE_cons (rK_R (by decide)) (rE_cons (rK_R (by decide)) (rE_cons (rK_R (by decide)) (rE_cons rK_I (rE_cons rK_I (rE_cons rK_I rE_nil))))))))))))))⟩
theorem rs_fl_8 {nC nS : Int} : rS zt_fl (SHc nC nS 8) (SHc nC nS 8) := ⟨rfl, rfl, (rE_cons (rK_R (by decide)) (rE_cons (rK_R (by decide)) (rE_cons (rK_R (by decide)) (rE_cons (rK_R (by decide)) (rE_cons (rK_R (by decide)) (rE_cons (rK_R (by decide)) (rE_cons (rK_R (by decide)) (rE_cons (rK_R (by decide)) (rE_cons (rK_R (by decide)) (rE_cons (rK_R (by decide)) (rE_cons (rK_R (by decide)) (rE_cons (rK_R (by decide)) (rE_cons rK_I (rE_cons rK_I (rE_cons rK_I (rE_cons rK_I (rE_cons rK_I rE_nil)))))))))))))))))⟩
theorem rs_fl_9 {nC nS : Int} : rS zt_fl (SHc nC nS 9) (SHc nC nS 9) := ⟨rfl, rfl, (rE_cons (rK_R (by decide)) (rE_cons (rK_R (by decide)) (rE_cons rK_I (rE_cons rK_I rE_nil))))⟩
theorem rs_fl_10 {nC nS : Int} : rS zt_fl (SHc nC nS 10) (SHc nC nS 10) := ⟨rfl, rfl, (rE_cons rK_I (rE_cons rK_I (rE_cons rK_I (rE_cons rK_I (rE_cons rK_I (rE_cons rK_I (rE_cons rK_I (rE_cons rK_I (rE_cons rK_I (rE_cons rK_I (rE_cons rK_I (rE_cons rK_I rE_nil))))))))))))⟩
theorem rs_fl_11 {nC nS : Int} : rS zt_fl (SHc nC nS 11) (SHc nC nS 11) := ⟨rfl, rfl, (rE_cons (rK_R (by decide)) (rE_cons (rK_R (by decide)) (rE_cons (rK_R (by decide)) (rE_cons (rK_R (by decide)) (rE_cons (rK_R (by decide)) (rE_cons (rK_R (by decide)) (rE_cons rK_I rE_nil)))))))⟩
theorem rs_fl_12 {nC nS : Int} : rS zt_fl (SHc nC nS 12) (SHc nC nS 12) := ⟨rfl, rfl, (rE_cons (rK_R (by decide)) (rE_cons (rK_R (by decide)) (rE_cons rK_I rE_nil)))⟩
theorem rs_fl_13 {nC nS : Int} : rS zt_fl (SHc nC nS 13) (SHc nC nS 13) := ⟨rfl, rfl, (rE_cons (rK_R (by decide)) (rE_cons (rK_R (by decide)) (rE_cons rK_I (rE_cons rK_I (rE_cons rK_I (rE_cons rK_I (rE_cons rK_I (rE_cons rK_I (rE_cons rK_I (rE_cons rK_I (rE_cons rK_I (rE_cons rK_I rE_nil))))))))))))⟩
theorem rs_fl_14 {nC nS : Int} : rS zt_fl (SHc nC nS 14) (SHc nC nS 14) := ⟨rfl, rfl, (rE_cons (rK_R (by decide)) (rE_cons (rK_R (by decide)) (rE_cons (rK_R (by decide)) (rE_cons (rK_R (by decide)) (rE_cons (rK_R (by decide)) (rE_cons (rK_R (by decide)) (rE_cons (rK_N (by decide)) (rE_cons rK_I (rE_cons rK_I rE_nil)))))))))⟩
theorem rs_fl_16 {nC nS : Int} : rS zt_fl (SHc nC nS 16) (SHc nC nS 16) := ⟨rfl, rfl, (rE_ga rK_I)⟩
theorem rs_fl_17 {nC nS : Int} : rS zt_fl (SHc nC nS 17) (SHc nC nS 17) := ⟨rfl, rfl, (rE_gnb (by decide))⟩
theorem rs_fl_18 {nC nS : Int} : rS zt_fl (SHc nC nS 18) (SHc nC nS 18) := ⟨rfl, rfl, (rE_ga (rK_R (by decide)))⟩
theorem rs_fl_19 {nC nS : Int} : rS zt_fl (SHc nC nS 19) (SHc nC nS 19) := ⟨rfl, rfl, (rE_ga rK_I)⟩
theorem rs_fl_20 {nC nS : Int} : rS zt_fl (SHc nC nS 20) (SHc nC nS 20) := ⟨rfl, rfl, (rE_ga rK_I)⟩
theorem rs_fl_21 {nC nS : Int} : rS zt_fl (SHc nC nS 21) (SHc nC nS 21) := ⟨rfl, rfl, (rE_ga rK_I)⟩
theorem rs_fl_22 {nC nS : Int} : rS zt_fl (SHc nC nS 22) (SHc nC nS 22) := ⟨rfl, rfl, (rE_ga rK_I)⟩
theorem rs_fl_23 {nC nS : Int} : rS zt_fl (SHc nC nS 23) (SHc nC nS 23) := ⟨rfl, rfl, (rE_ga rK_I)⟩
theorem rs_fl_24 {nC nS : Int} : rS zt_fl (SHc nC nS 24) (SHc nC nS 24) := ⟨rfl, rfl, (rE_ga rK_I)⟩
theorem rs_fl_25 {nC nS : Int} : rS zt_fl (SHc nC nS 25) (SHc nC nS 25) := ⟨rfl, rfl, (rE_ga rK_I)⟩
theorem rs_fl_26 {nC nS : Int} : rS zt_fl (SHc nC nS 26) (SHc nC nS 26) := ⟨rfl, rfl, (rE_ga rK_I)⟩
theorem rs_fl_27 {nC nS : Int} : rS zt_fl (SHc nC nS 27) (SHc nC nS 27) := ⟨rfl, rfl, (rE_ga rK_I)⟩
theorem rs_fl_28 {nC nS : Int} : rS zt_fl (SHc nC nS 28) (SHc nC nS 28) := ⟨rfl, rfl, (rE_ga rK_I)⟩
theorem rs_fl_29 {nC nS : Int} : rS zt_fl (SHc nC nS 29) (SHc nC nS 29) := ⟨rfl, rfl, (rE_ga rK_I)⟩
theorem rs_fl_30 {nC nS : Int} : rS zt_fl (SHc nC nS 30) (SHc nC nS 30) := ⟨rfl, rfl, (rE_ga rK_I)⟩
theorem rs_fl_31 {nC nS : Int} : rS zt_fl (SHc nC nS 31) (SHc nC nS 31) := ⟨rfl, rfl, (rE_ga rK_I)⟩
theorem rs_fl_32 {nC nS : Int} : rS zt_fl (SHc nC nS 32) (SHc nC nS 32) := ⟨rfl, rfl, (rE_ga rK_I)⟩
theorem rs_fl_33 {nC nS : Int} : rS zt_fl (SHc nC nS 33) (SHc nC nS 33) := ⟨rfl, rfl, (rE_ga rK_I)⟩
theorem rs_fl_34 {nC nS : Int} : rS zt_fl (SHc nC nS 34) (SHc nC nS 34) := ⟨rfl, rfl, (rE_ga rK_I)⟩
theorem rs_fl_35 {nC nS : Int} : rS zt_fl (SHc nC nS 35) (SHc nC nS 35) := ⟨rfl, rfl, (rE_ga rK_I)⟩
theorem rs_fl_36 {nC nS : Int} : rS zt_fl (SHc nC nS 36) (SHc nC nS 36) := ⟨rfl, rfl, (rE_ga rK_I)⟩
theorem rs_fl_37 {nC nS : Int} : rS zt_fl (SHc nC nS 37) (SHc nC nS 37) := ⟨rfl, rfl, (rE_ga rK_I)⟩
theorem rs_fl_38 {nC nS : Int} : rS zt_fl (SHc nC nS 38) (SHc nC nS 38) := ⟨rfl, rfl, (rE_ga rK_I)⟩
theorem rs_fl_39 {nC nS : Int} : rS zt_fl (SHc nC nS 39) (SHc nC nS 39) := ⟨rfl, rfl, (rE_ga rK_I)⟩
theorem rs_fl_40 {nC nS : Int} : rS zt_fl (SHc nC nS 40) (SHc nC nS 40) := ⟨rfl, rfl, (rE_ga rK_I)⟩
theorem rs_fl_41 {nC nS : Int} : rS zt_fl (SHc nC nS 41) (SHc nC nS 41) := ⟨rfl, rfl, (rE_ga rK_I)⟩
theorem rs_fl_42 {nC nS : Int} : rS zt_fl (SHc nC nS 42) (SHc nC nS 42) := ⟨rfl, rfl, (rE_ga rK_I)⟩
theorem rs_fl_43 {nC nS : Int} : rS zt_fl (SHc nC nS 43) (SHc nC nS 43) := ⟨rfl, rfl, (rE_ga rK_I)⟩
theorem rs_fl_44 {nC nS : Int} : rS zt_fl (SHc nC nS 44) (SHc nC nS 44) := ⟨rfl, rfl, (rE_ga rK_I)⟩
theorem rs_fl_45 {nC nS : Int} : rS zt_fl (SHc nC nS 45) (SHc nC nS 45) := ⟨rfl, rfl, (rE_ga rK_I)⟩
theorem rs_fl_46 {nC nS : Int} : rS zt_fl (SHc nC nS 46) (SHc nC nS 46) := ⟨rfl, rfl, (rE_ga rK_I)⟩
theorem rs_fl_47 {nC nS : Int} : rS zt_fl (SHc nC nS 47) (SHc nC nS 47) := ⟨rfl, rfl, (rE_ga rK_I)⟩
theorem rs_fl_48 {nC nS : Int} : rS zt_fl (SHc nC nS 48) (SHc nC nS 48) := ⟨rfl, rfl, (rE_ga rK_I)⟩
theorem rs_fl_49 {nC nS : Int} : rS zt_fl (SHc nC nS 49) (SHc nC nS 49) := ⟨rfl, rfl, (rE_ga rK_I)⟩
theorem rs_fl_50 {nC nS : Int} : rS zt_fl (SHc nC nS 50) (SHc nC nS 50) := ⟨rfl, rfl, (rE_ga rK_J)⟩
theorem rs_fl_51 {nC nS : Int} : rS zt_fl (SHc nC nS 51) (SHc nC nS 51) := ⟨rfl, rfl, (rE_gnb (by decide))⟩
theorem rs_fl_52 {nC nS : Int} : rS zt_fl (SHc nC nS 52) (SHc nC nS 52) := ⟨rfl, rfl, (rE_ga rK_I)⟩
theorem rs_fl_53 {nC nS : Int} : rS zt_fl (SHc nC nS 53) (SHc nC nS 53) := ⟨rfl, rfl, (rE_ga rK_I)⟩
theorem rs_fl_54 {nC nS : Int} : rS zt_fl (SHc nC nS 54) (SHc nC nS 54) := ⟨rfl, rfl, (rE_ga rK_I)⟩
theorem rs_fl_55 {nC nS : Int} : rS zt_fl (SHc nC nS 55) (SHc nC nS 55) := ⟨rfl, rfl, (rE_ga rK_I)⟩
theorem rs_fl_56 {nC nS : Int} : rS zt_fl (SHc nC nS 56) (SHc nC nS 56) := ⟨rfl, rfl, (rE_ga rK_J)⟩
theorem rs_fl_57 {nC nS : Int} : rS zt_fl (SHc nC nS 57) (SHc nC nS 57) := ⟨rfl, rfl, (rE_ga rK_I)⟩
theorem rs_fl_58 {nC nS : Int} : rS zt_fl (SHc nC nS 58) (SHc nC nS 58) := ⟨rfl, rfl, (rE_ga rK_I)⟩
theorem rs_fl_59 {nC nS : Int} : rS zt_fl (SHc nC nS 59) (SHc nC nS 59) := ⟨rfl, rfl, (rE_ga rK_I)⟩
theorem rs_fl_60 {nC nS : Int} : rS zt_fl (SHc nC nS 60) (SHc nC nS 60) := ⟨rfl, rfl, (rE_ga rK_I)⟩
theorem rs_fl_61 {nC nS : Int} : rS zt_fl (SHc nC nS 61) (SHc nC nS 61) := ⟨rfl, rfl, (rE_ga rK_I)⟩
theorem rs_fl_62 {nC nS : Int} : rS zt_fl (SHc nC nS 62) (SHc nC nS 62) := ⟨rfl, rfl, (rE_ga rK_I)⟩
theorem rs_fl_63 {nC nS : Int} : rS zt_fl (SHc nC nS 63) (SHc nC nS 63) := ⟨rfl, rfl, (rE_ga rK_I)⟩
theorem rs_fl_64 {nC nS : Int} : rS zt_fl (SHc nC nS 64) (SHc nC nS 64) := ⟨rfl, rfl, (rE_ga rK_I)⟩
theorem rs_fl_65 {nC nS : Int} : rS zt_fl (SHc nC nS 65) (SHc nC nS 65) := ⟨rfl, rfl, (rE_ga rK_I)⟩
theorem rs_fl_66 {nC nS : Int} : rS zt_fl (SHc nC nS 66) (SHc nC nS 66) := ⟨rfl, rfl, (rE_ga rK_I)⟩
theorem rs_fl_67 {nC nS : Int} : rS zt_fl (SHc nC nS 67) (SHc nC nS 67) := ⟨rfl, rfl, (rE_ga rK_I)⟩
theorem rs_fl_68 {nC nS : Int} : rS zt_fl (SHc nC nS 68) (SHc nC nS 68) := ⟨rfl, rfl, (rE_ga rK_I)⟩
theorem rs_fl_69 {nC nS : Int} : rS zt_fl (SHc nC nS 69) (SHc nC nS 69) := ⟨rfl, rfl, (rE_ga rK_I)⟩
theorem rs_fl_70 {nC nS : Int} : rS zt_fl (SHc nC nS 70) (SHc nC nS 70) := ⟨rfl, rfl, (rE_ga (rK_R (by decide)))⟩
theorem rs_fl_71 {nC nS : Int} : rS zt_fl (SHc nC nS 71) (SHc nC nS 71) := ⟨rfl, rfl, (rE_ga rK_I)⟩
theorem rs_fl_72 {nC nS : Int} : rS zt_fl (SHc nC nS 72) (SHc nC nS 72) := ⟨rfl, rfl, (rE_ga rK_I)⟩
theorem rs_fl_73 {nC nS : Int} : rS zt_fl (SHc nC nS 73) (SHc nC nS 73) := ⟨rfl, rfl, (rE_ga rK_I)⟩
theorem rs_fl_74 {nC nS : Int} : rS zt_fl (SHc nC nS 74) (SHc nC nS 74) := ⟨rfl, rfl, (rE_ga rK_I)⟩
theorem rs_fl_75 {nC nS : Int} : rS zt_fl (SHc nC nS 75) (SHc nC nS 75) := ⟨rfl, rfl, (rE_ga rK_I)⟩
theorem rs_fl_76 {nC nS : Int} : rS zt_fl (SHc nC nS 76) (SHc nC nS 76) := ⟨rfl, rfl, (rE_ga rK_I)⟩
theorem rs_fl_77 {nC nS : Int} : rS zt_fl (SHc nC nS 77) (SHc nC nS 77) := ⟨rfl, rfl, (rE_ga rK_I)⟩
theorem rs_fl_78 {nC nS : Int} : rS zt_fl (SHc nC nS 78) (SHc nC nS 78) := ⟨rfl, rfl, (rE_ga rK_I)⟩
theorem rs_fl_79 {nC nS : Int} : rS zt_fl (SHc nC nS 79) (SHc nC nS 79) := ⟨rfl, rfl, (rE_ga rK_I)⟩
theorem rs_fl_80 {nC nS : Int} : rS zt_fl (SHc nC nS 80) (SHc nC nS 80) := ⟨rfl, rfl, (rE_ga rK_I)⟩
theorem rs_fl_81 {nC nS : Int} : rS zt_fl (SHc nC nS 81) (SHc nC nS 81) := ⟨rfl, rfl, (rE_ga rK_I)⟩
theorem rs_fl_82 {nC nS : Int} : rS zt_fl (SHc nC nS 82) (SHc nC nS 82) := ⟨rfl, rfl, (rE_ga rK_I)⟩
theorem rs_fl_83 {nC nS : Int} : rS zt_fl (SHc nC nS 83) (SHc nC nS 83) := ⟨rfl, rfl, (rE_ga rK_I)⟩
theorem rs_fl_84 {nC nS : Int} : rS zt_fl (SHc nC nS 84) (SHc nC nS 84) := ⟨rfl, rfl, (rE_ga rK_I)⟩
theorem rs_fl_85 {nC nS : Int} : rS zt_fl (SHc nC nS 85) (SHc nC nS 85) := ⟨rfl, rfl, (rE_ga rK_I)⟩
theorem rs_fl_86 {nC nS : Int} : rS zt_fl (SHc nC nS 86) (SHc nC nS 86) := ⟨rfl, rfl, (rE_ga rK_I)⟩
theorem rs_fl_87 {nC nS : Int} : rS zt_fl (SHc nC nS 87) (SHc nC nS 87) := ⟨rfl, rfl, (rE_ga rK_I)⟩
theorem rs_fl_88 {nC nS : Int} : rS zt_fl (SHc nC nS 88) (SHc nC nS 88) := ⟨rfl, rfl, (rE_ga rK_I)⟩
theorem rs_fl_89 {nC nS : Int} : rS zt_fl (SHc nC nS 89) (SHc nC nS 89) := ⟨rfl, rfl, (rE_ga rK_I)⟩
theorem rs_fl_90 {nC nS : Int} : rS zt_fl (SHc nC nS 90) (SHc nC nS 90) := ⟨rfl, rfl, (rE_cons (rK_R (by decide)) (rE_cons (rK_R (by decide)) (rE_cons (rK_R (by decide)) (rE_cons rK_I (rE_cons rK_I rE_nil)))))⟩
theorem rs_fl_91 {nC nS : Int} : rS zt_fl (SHc nC nS 91) (SHc nC nS 91) := ⟨rfl, rfl, (rE_cons (rK_R (by decide)) (rE_cons (rK_R (by decide)) (rE_cons (rK_R (by decide)) (rE_cons (rK_R (by decide)) (rE_cons (rK_R (by decide)) (rE_cons (rK_R (by decide)) (rE_cons rK_I rE_nil)))))))⟩
theorem rs_fl_92 {nC nS : Int} : rS zt_fl (SHc nC nS 92) (SHc nC nS 92) := ⟨rfl, rfl, (rE_cons (rK_R (by decide)) (rE_cons (rK_R (by decide)) (rE_cons rK_I rE_nil)))⟩
theorem rs_fl_93 {nC nS : Int} : rS zt_fl (SHc nC nS 93) (SHc nC nS 93) := ⟨rfl, rfl, (rE_cons (rK_R (by decide)) (rE_cons (rK_R (by decide)) (rE_cons (rK_R (by decide)) (rE_cons (rK_R (by decide)) (rE_cons (rK_R (by decide)) (rE_cons (rK_R (by decide)) (rE_cons (rK_R (by decide)) (rE_cons (rK_R (by decide)) (rE_cons (rK_R (by decide)) (rE_cons (rK_R (by decide)) (rE_cons (rK_R (by decide)) (rE_cons rK_I (rE_cons rK_I (rE_cons rK_I (rE_cons rK_I rE_nil)))))))))))))))⟩
theorem rs_fl_94 {nC nS : Int} : rS zt_fl (SHc nC nS 94) (SHc nC nS 94) := ⟨rfl, rfl, (rE_cons (rK_R (by decide)) (rE_cons (rK_R (by decide)) (rE_cons rK_I (rE_cons rK_I (rE_cons rK_I (rE_cons rK_I (rE_cons rK_I (rE_cons rK_I (rE_cons rK_I (rE_cons rK_I (rE_cons rK_I (rE_cons rK_I rE_nil))))))))))))⟩
theorem rs_fl_98 {nC nS : Int} : rS zt_fl (SHc nC nS 98) (SHc nC nS 98) := ⟨rfl, rfl, (rE_ga rK_J)⟩
theorem rs_fl_140 {nC nS : Int} : rS zt_fl (SHc nC nS 140) (SHc nC nS 140) := ⟨rfl, rfl, (rE_cons (rK_R (by decide)) (rE_cons (rK_R (by decide)) (rE_cons (rK_R (by decide)) (rE_cons (rK_R (by decide)) (rE_cons (rK_R (by decide)) (rE_cons (rK_R (by decide)) (rE_cons (rK_R (by decide)) (rE_cons (rK_R (by decide)) (rE_cons (rK_R (by decide)) (rE_cons (rK_R (by decide)) (rE_cons (rK_R (by decide)) (rE_cons rK_I (rE_cons rK_I (rE_cons rK_I rE_nil))))))))))))))⟩
theorem rs_fl_141 {nC nS : Int} : rS zt_fl (SHc nC nS 141) (SHc nC nS 141) := ⟨rfl, rfl, (rE_ga rK_I)⟩
theorem rs_fl_142 {nC nS : Int} : rS zt_fl (SHc nC nS 142) (SHc nC nS 142) := ⟨rfl, rfl, (rE_ga rK_I)⟩
theorem rs_fl_143 {nC nS : Int} : rS zt_fl (SHc nC nS 143) (SHc nC nS 143) := ⟨rfl, rfl, (rE_ga rK_I)⟩
theorem rs_fl_144 {nC nS : Int} : rS zt_fl (SHc nC nS 144) (SHc nC nS 144) := ⟨rfl, rfl, (rE_ga rK_I)⟩
theorem rs_fl_145 {nC nS : Int} : rS zt_fl (SHc nC nS 145) (SHc nC nS 145) := ⟨rfl, rfl, (rE_ga rK_I)⟩
theorem rs_fl_146 {nC nS : Int} : rS zt_fl (SHc nC nS 146) (SHc nC nS 146) := ⟨rfl, rfl, (rE_ga rK_I)⟩
theorem rs_fl_147 {nC nS : Int} : rS zt_fl (SHc nC nS 147) (SHc nC nS 147) := ⟨rfl, rfl, (rE_ga rK_I)⟩
theorem rs_fl_148 {nC nS : Int} : rS zt_fl (SHc nC nS 148) (SHc nC nS 148) := ⟨rfl, rfl, (rE_ga rK_I)⟩
theorem rs_fl_149 {nC nS : Int} : rS zt_fl (SHc nC nS 149) (SHc nC nS 149) := ⟨rfl, rfl, (rE_ga rK_I)⟩
theorem rs_fl_150 {nC nS : Int} : rS zt_fl (SHc nC nS 150) (SHc nC nS 150) := ⟨rfl, rfl, (rE_ga rK_I)⟩
theorem rs_fl_151 {nC nS : Int} : rS zt_fl (SHc nC nS 151) (SHc nC nS 151) := ⟨rfl, rfl, (rE_ga rK_J)⟩
theorem rs_fl_152 {nC nS : Int} : rS zt_fl (SHc nC nS 152) (SHc nC nS 152) := ⟨rfl, rfl, (rE_cons (rK_R (by decide)) (rE_cons (rK_R (by decide)) (rE_cons (rK_R (by decide)) (rE_cons (rK_R (by decide)) (rE_cons (rK_R (by decide)) (rE_cons (rK_R (by decide)) (rE_cons (rK_R (by decide)) (rE_cons (rK_R (by decide)) (rE_cons (rK_R (by decide)) (rE_cons (rK_R (by decide)) (rE_cons (rK_R (by decide)) (rE_cons rK_I (rE_cons rK_I (rE_cons rK_I rE_nil))))))))))))))⟩
theorem rs_fl_153 {nC nS : Int} : rS zt_fl (SHc nC nS 153) (SHc nC nS 153) := ⟨rfl, rfl, (rE_ga rK_I)⟩
theorem rs_fl_154 {nC nS : Int} : rS zt_fl (SHc nC nS 154) (SHc nC nS 154) := ⟨rfl, rfl, (rE_ga rK_I)⟩
theorem rs_fl_155 {nC nS : Int} : rS zt_fl (SHc nC nS 155) (SHc nC nS 155) := ⟨rfl, rfl, (rE_ga rK_I)⟩
theorem rs_fl_156 {nC nS : Int} : rS zt_fl (SHc nC nS 156) (SHc nC nS 156) := ⟨rfl, rfl, (rE_ga rK_I)⟩
theorem rs_fl_157 {nC nS : Int} : rS zt_fl (SHc nC nS 157) (SHc nC nS 157) := ⟨rfl, rfl, (rE_ga rK_I)⟩
theorem rs_fl_158 {nC nS : Int} : rS zt_fl (SHc nC nS 158) (SHc nC nS 158) := ⟨rfl, rfl, (rE_ga rK_I)⟩
theorem rs_fl_159 {nC nS : Int} : rS zt_fl (SHc nC nS 159) (SHc nC nS 159) := ⟨rfl, rfl, (rE_ga rK_I)⟩
theorem rs_fl_160 {nC nS : Int} : rS zt_fl (SHc nC nS 160) (SHc nC nS 160) := ⟨rfl, rfl, (rE_ga rK_I)⟩
theorem rs_fl_161 {nC nS : Int} : rS zt_fl (SHc nC nS 161) (SHc nC nS 161) := ⟨rfl, rfl, (rE_ga rK_I)⟩
theorem rs_fl_162 {nC nS : Int} : rS zt_fl (SHc nC nS 162) (SHc nC nS 162) := ⟨rfl, rfl, (rE_ga rK_I)⟩
theorem rs_fl_163 {nC nS : Int} : rS zt_fl (SHc nC nS 163) (SHc nC nS 163) := ⟨rfl, rfl, (rE_ga rK_J)⟩
set_option maxRecDepth 100000 in
theorem rs_fl {nC nS : Int} : ∀ t u, zt_fl t = some u → rS zt_fl (SHc nC nS t) (SHc nC nS u) := by
  intro t u h
  have h := zt_m h
  rcases List.mem_cons.mp h with h | h
  · obtain ⟨rfl, rfl⟩ := Prod.mk.inj h
    exact rs_fl_3
  rcases List.mem_cons.mp h with h | h
  · obtain ⟨rfl, rfl⟩ := Prod.mk.inj h
    exact rs_fl_4
  rcases List.mem_cons.mp h with h | h
  · obtain ⟨rfl, rfl⟩ := Prod.mk.inj h
    exact rs_fl_5
  rcases List.mem_cons.mp h with h | h
  · obtain ⟨rfl, rfl⟩ := Prod.mk.inj h
    exact rs_fl_6
  rcases List.mem_cons.mp h with h | h
  · obtain ⟨rfl, rfl⟩ := Prod.mk.inj h
    exact rs_fl_7
  rcases List.mem_cons.mp h with h | h
  · obtain ⟨rfl, rfl⟩ := Prod.mk.inj h
    exact rs_fl_8
  rcases List.mem_cons.mp h with h | h
  · obtain ⟨rfl, rfl⟩ := Prod.mk.inj h
    exact rs_fl_9
  rcases List.mem_cons.mp h with h | h
  · obtain ⟨rfl, rfl⟩ := Prod.mk.inj h
    exact rs_fl_10
  rcases List.mem_cons.mp h with h | h
  · obtain ⟨rfl, rfl⟩ := Prod.mk.inj h
    exact rs_fl_11
  rcases List.mem_cons.mp h with h | h
  · obtain ⟨rfl, rfl⟩ := Prod.mk.inj h
    exact rs_fl_12
  rcases List.mem_cons.mp h with h | h
  · obtain ⟨rfl, rfl⟩ := Prod.mk.inj h
    exact rs_fl_13
  rcases List.mem_cons.mp h with h | h
  · obtain ⟨rfl, rfl⟩ := Prod.mk.inj h
    exact rs_fl_14
  rcases List.mem_cons.mp h with h | h
  · obtain ⟨rfl, rfl⟩ := Prod.mk.inj h
    exact rs_fl_16
  rcases List.mem_cons.mp h with h | h
  · obtain ⟨rfl, rfl⟩ := Prod.mk.inj h
    exact rs_fl_17
  rcases List.mem_cons.mp h with h | h
  · obtain ⟨rfl, rfl⟩ := Prod.mk.inj h
    exact rs_fl_18
  rcases List.mem_cons.mp h with h | h
  · obtain ⟨rfl, rfl⟩ := Prod.mk.inj h
    exact rs_fl_19
  rcases List.mem_cons.mp h with h | h
  · obtain ⟨rfl, rfl⟩ := Prod.mk.inj h
    exact rs_fl_20
  rcases List.mem_cons.mp h with h | h
  · obtain ⟨rfl, rfl⟩ := Prod.mk.inj h
    exact rs_fl_21
  rcases List.mem_cons.mp h with h | h
  · obtain ⟨rfl, rfl⟩ := Prod.mk.inj h
    exact rs_fl_22
  rcases List.mem_cons.mp h with h | h
  · obtain ⟨rfl, rfl⟩ := Prod.mk.inj h
    exact rs_fl_23
  rcases List.mem_cons.mp h with h | h
  · obtain ⟨rfl, rfl⟩ := Prod.mk.inj h
    exact rs_fl_24
  rcases List.mem_cons.mp h with h | h
  · obtain ⟨rfl, rfl⟩ := Prod.mk.inj h
    exact rs_fl_25
  rcases List.mem_cons.mp h with h | h
  · obtain ⟨rfl, rfl⟩ := Prod.mk.inj h
    exact rs_fl_26
  rcases List.mem_cons.mp h with h | h
  · obtain ⟨rfl, rfl⟩ := Prod.mk.inj h
    exact rs_fl_27
  rcases List.mem_cons.mp h with h | h
  · obtain ⟨rfl, rfl⟩ := Prod.mk.inj h
    exact rs_fl_28
  rcases List.mem_cons.mp h with h | h
  · obtain ⟨rfl, rfl⟩ := Prod.mk.inj h
    exact rs_fl_29
  rcases List.mem_cons.mp h with h | h
  · obtain ⟨rfl, rfl⟩ := Prod.mk.inj h
    exact rs_fl_30
  rcases List.mem_cons.mp h with h | h
  · obtain ⟨rfl, rfl⟩ := Prod.mk.inj h
    exact rs_fl_31
  rcases List.mem_cons.mp h with h | h
  · obtain ⟨rfl, rfl⟩ := Prod.mk.inj h
    exact rs_fl_32
  rcases List.mem_cons.mp h with h | h
  · obtain ⟨rfl, rfl⟩ := Prod.mk.inj h
    exact rs_fl_33
  rcases List.mem_cons.mp h with h | h
  · obtain ⟨rfl, rfl⟩ := Prod.mk.inj h
    exact rs_fl_34
  rcases List.mem_cons.mp h with h | h
  · obtain ⟨rfl, rfl⟩ := Prod.mk.inj h
    exact rs_fl_35
  rcases List.mem_cons.mp h with h | h
  · obtain ⟨rfl, rfl⟩ := Prod.mk.inj h
    exact rs_fl_36
  rcases List.mem_cons.mp h with h | h
  · obtain ⟨rfl, rfl⟩ := Prod.mk.inj h
    exact rs_fl_37
  rcases List.mem_cons.mp h with h | h
  · obtain ⟨rfl, rfl⟩ := Prod.mk.inj h
    exact rs_fl_38
  rcases List.mem_cons.mp h with h | h
  · obtain ⟨rfl, rfl⟩ := Prod.mk.inj h
    exact rs_fl_39
  rcases List.mem_cons.mp h with h | h
  · obtain ⟨rfl, rfl⟩ := Prod.mk.inj h
    exact rs_fl_40
  rcases List.mem_cons.mp h with h | h
  · obtain ⟨rfl, rfl⟩ := Prod.mk.inj h
    exact rs_fl_41
  rcases List.mem_cons.mp h with h | h
  · obtain ⟨rfl, rfl⟩ := Prod.mk.inj h
    exact rs_fl_42
  rcases List.mem_cons.mp h with h | h
  · obtain ⟨rfl, rfl⟩ := Prod.mk.inj h
    exact rs_fl_43
  rcases List.mem_cons.mp h with h | h
  · obtain ⟨rfl, rfl⟩ := Prod.mk.inj h
    exact rs_fl_44
  rcases List.mem_cons.mp h with h | h
  · obtain ⟨rfl, rfl⟩ := Prod.mk.inj h
    exact rs_fl_45
  rcases List.mem_cons.mp h with h | h
  · obtain ⟨rfl, rfl⟩ := Prod.mk.inj h
    exact rs_fl_46
  rcases List.mem_cons.mp h with h | h
  · obtain ⟨rfl, rfl⟩ := Prod.mk.inj h
    exact rs_fl_47
  rcases List.mem_cons.mp h with h | h
  · obtain ⟨rfl, rfl⟩ := Prod.mk.inj h
    exact rs_fl_48
  rcases List.mem_cons.mp h with h | h
  · obtain ⟨rfl, rfl⟩ := Prod.mk.inj h
    exact rs_fl_49
  rcases List.mem_cons.mp h with h | h
  · obtain ⟨rfl, rfl⟩ := Prod.mk.inj h
    exact rs_fl_50
  rcases List.mem_cons.mp h with h | h
  · obtain ⟨rfl, rfl⟩ := Prod.mk.inj h
    exact rs_fl_51
  rcases List.mem_cons.mp h with h | h
  · obtain ⟨rfl, rfl⟩ := Prod.mk.inj h
    exact rs_fl_52
  rcases List.mem_cons.mp h with h | h
  · obtain ⟨rfl, rfl⟩ := Prod.mk.inj h
    exact rs_fl_53
  rcases List.mem_cons.mp h with h | h
  · obtain ⟨rfl, rfl⟩ := Prod.mk.inj h
    exact rs_fl_54
  rcases List.mem_cons.mp h with h | h
  · obtain ⟨rfl, rfl⟩ := Prod.mk.inj h
    exact rs_fl_55
  rcases List.mem_cons.mp h with h | h
  · obtain ⟨rfl, rfl⟩ := Prod.mk.inj h
    exact rs_fl_56
  rcases List.mem_cons.mp h with h | h
  · obtain ⟨rfl, rfl⟩ := Prod.mk.inj h
    exact rs_fl_57
  rcases List.mem_cons.mp h with h | h
  · obtain ⟨rfl, rfl⟩ := Prod.mk.inj h
    exact rs_fl_58
  rcases List.mem_cons.mp h with h | h
  · obtain ⟨rfl, rfl⟩ := Prod.mk.inj h
    exact rs_fl_59
  rcases List.mem_cons.mp h with h | h
  · obtain ⟨rfl, rfl⟩ := Prod.mk.inj h
    exact rs_fl_60
  rcases List.mem_cons.mp h with h | h
  · obtain ⟨rfl, rfl⟩ := Prod.mk.inj h
    exact rs_fl_61
  rcases List.mem_cons.mp h with h | h
  · obtain ⟨rfl, rfl⟩ := Prod.mk.inj h
    exact rs_fl_62
  rcases List.mem_cons.mp h with h | h
  · obtain ⟨rfl, rfl⟩ := Prod.mk.inj h
    exact rs_fl_63
  rcases List.mem_cons.mp h with h | h
  · obtain ⟨rfl, rfl⟩ := Prod.mk.inj h
    exact rs_fl_64
  rcases List.mem_cons.mp h with h | h
  · obtain ⟨rfl, rfl⟩ := Prod.mk.inj h
    exact rs_fl_65
  rcases List.mem_cons.mp h with h | h
  · obtain ⟨rfl, rfl⟩ := Prod.mk.inj h
    exact rs_fl_66
  rcases List.mem_cons.mp h with h | h
  · obtain ⟨rfl, rfl⟩ := Prod.mk.inj h
    exact rs_fl_67
  rcases List.mem_cons.mp h with h | h
  · obtain ⟨rfl, rfl⟩ := Prod.mk.inj h
    exact rs_fl_68
  rcases List.mem_cons.mp h with h | h
  · obtain ⟨rfl, rfl⟩ := Prod.mk.inj h
    exact rs_fl_69
  rcases List.mem_cons.mp h with h | h
  · obtain ⟨rfl, rfl⟩ := Prod.mk.inj h
    exact rs_fl_70
  rcases List.mem_cons.mp h with h | h
  · obtain ⟨rfl, rfl⟩ := Prod.mk.inj h
    exact rs_fl_71
  rcases List.mem_cons.mp h with h | h
  · obtain ⟨rfl, rfl⟩ := Prod.mk.inj h
    exact rs_fl_72
  rcases List.mem_cons.mp h with h | h
  · obtain ⟨rfl, rfl⟩ := Prod.mk.inj h
    exact rs_fl_73
  rcases List.mem_cons.mp h with h | h
  · obtain ⟨rfl, rfl⟩ := Prod.mk.inj h
    exact rs_fl_74
  rcases List.mem_cons.mp h with h | h
  · obtain ⟨rfl, rfl⟩ := Prod.mk.inj h
    exact rs_fl_75
  rcases List.mem_cons.mp h with h | h
  · obtain ⟨rfl, rfl⟩ := Prod.mk.inj h
    exact rs_fl_76
  rcases List.mem_cons.mp h with h | h
  · obtain ⟨rfl, rfl⟩ := Prod.mk.inj h
    exact rs_fl_77
  rcases List.mem_cons.mp h with h | h
  · obtain ⟨rfl, rfl⟩ := Prod.mk.inj h
    exact rs_fl_78
  rcases List.mem_cons.mp h with h | h
  · obtain ⟨rfl, rfl⟩ := Prod.mk.inj h
    exact rs_fl_79
  rcases List.mem_cons.mp h with h | h
  · obtain ⟨rfl, rfl⟩ := Prod.mk.inj h
    exact rs_fl_80
  rcases List.mem_cons.mp h with h | h
  · obtain ⟨rfl, rfl⟩ := Prod.mk.inj h
    exact rs_fl_81
  rcases List.mem_cons.mp h with h | h
  · obtain ⟨rfl, rfl⟩ := Prod.mk.inj h
    exact rs_fl_82
  rcases List.mem_cons.mp h with h | h
  · obtain ⟨rfl, rfl⟩ := Prod.mk.inj h
    exact rs_fl_83
  rcases List.mem_cons.mp h with h | h
  · obtain ⟨rfl, rfl⟩ := Prod.mk.inj h
    exact rs_fl_84
  rcases List.mem_cons.mp h with h | h
  · obtain ⟨rfl, rfl⟩ := Prod.mk.inj h
    exact rs_fl_85
  rcases List.mem_cons.mp h with h | h
  · obtain ⟨rfl, rfl⟩ := Prod.mk.inj h
    exact rs_fl_86
  rcases List.mem_cons.mp h with h | h
  · obtain ⟨rfl, rfl⟩ := Prod.mk.inj h
    exact rs_fl_87
  rcases List.mem_cons.mp h with h | h
  · obtain ⟨rfl, rfl⟩ := Prod.mk.inj h
    exact rs_fl_88
  rcases List.mem_cons.mp h with h | h
  · obtain ⟨rfl, rfl⟩ := Prod.mk.inj h
    exact rs_fl_89
  rcases List.mem_cons.mp h with h | h
  · obtain ⟨rfl, rfl⟩ := Prod.mk.inj h
    exact rs_fl_90
  rcases List.mem_cons.mp h with h | h
  · obtain ⟨rfl, rfl⟩ := Prod.mk.inj h
    exact rs_fl_91
  rcases List.mem_cons.mp h with h | h
  · obtain ⟨rfl, rfl⟩ := Prod.mk.inj h
    exact rs_fl_92
  rcases List.mem_cons.mp h with h | h
  · obtain ⟨rfl, rfl⟩ := Prod.mk.inj h
    exact rs_fl_93
  rcases List.mem_cons.mp h with h | h
  · obtain ⟨rfl, rfl⟩ := Prod.mk.inj h
    exact rs_fl_94
  rcases List.mem_cons.mp h with h | h
  · obtain ⟨rfl, rfl⟩ := Prod.mk.inj h
    exact rs_fl_98
  rcases List.mem_cons.mp h with h | h
  · obtain ⟨rfl, rfl⟩ := Prod.mk.inj h
    exact rs_fl_140
  rcases List.mem_cons.mp h with h | h
  · obtain ⟨rfl, rfl⟩ := Prod.mk.inj h
    exact rs_fl_141
  rcases List.mem_cons.mp h with h | h
  · obtain ⟨rfl, rfl⟩ := Prod.mk.inj h
    exact rs_fl_142
  rcases List.mem_cons.mp h with h | h
  · obtain ⟨rfl, rfl⟩ := Prod.mk.inj h
    exact rs_fl_143
  rcases List.mem_cons.mp h with h | h
  · obtain ⟨rfl, rfl⟩ := Prod.mk.inj h
    exact rs_fl_144
  rcases List.mem_cons.mp h with h | h
  · obtain ⟨rfl, rfl⟩ := Prod.mk.inj h
    exact rs_fl_145
  rcases List.mem_cons.mp h with h | h
  · obtain ⟨rfl, rfl⟩ := Prod.mk.inj h
    exact rs_fl_146
  rcases List.mem_cons.mp h with h | h
  · obtain ⟨rfl, rfl⟩ := Prod.mk.inj h
    exact rs_fl_147
  rcases List.mem_cons.mp h with h | h
  · obtain ⟨rfl, rfl⟩ := Prod.mk.inj h
    exact rs_fl_148
  rcases List.mem_cons.mp h with h | h
  · obtain ⟨rfl, rfl⟩ := Prod.mk.inj h
    exact rs_fl_149
  rcases List.mem_cons.mp h with h | h
  · obtain ⟨rfl, rfl⟩ := Prod.mk.inj h
    exact rs_fl_150
  rcases List.mem_cons.mp h with h | h
  · obtain ⟨rfl, rfl⟩ := Prod.mk.inj h
    exact rs_fl_151
  rcases List.mem_cons.mp h with h | h
  · obtain ⟨rfl, rfl⟩ := Prod.mk.inj h
    exact rs_fl_152
  rcases List.mem_cons.mp h with h | h
  · obtain ⟨rfl, rfl⟩ := Prod.mk.inj h
    exact rs_fl_153
  rcases List.mem_cons.mp h with h | h
  · obtain ⟨rfl, rfl⟩ := Prod.mk.inj h
    exact rs_fl_154
  rcases List.mem_cons.mp h with h | h
  · obtain ⟨rfl, rfl⟩ := Prod.mk.inj h
    exact rs_fl_155
  rcases List.mem_cons.mp h with h | h
  · obtain ⟨rfl, rfl⟩ := Prod.mk.inj h
    exact rs_fl_156
  rcases List.mem_cons.mp h with h | h
  · obtain ⟨rfl, rfl⟩ := Prod.mk.inj h
    exact rs_fl_157
  rcases List.mem_cons.mp h with h | h
  · obtain ⟨rfl, rfl⟩ := Prod.mk.inj h
    exact rs_fl_158
  rcases List.mem_cons.mp h with h | h
  · obtain ⟨rfl, rfl⟩ := Prod.mk.inj h
    exact rs_fl_159
  rcases List.mem_cons.mp h with h | h
  · obtain ⟨rfl, rfl⟩ := Prod.mk.inj h
    exact rs_fl_160
  rcases List.mem_cons.mp h with h | h
  · obtain ⟨rfl, rfl⟩ := Prod.mk.inj h
    exact rs_fl_161
  rcases List.mem_cons.mp h with h | h
  · obtain ⟨rfl, rfl⟩ := Prod.mk.inj h
    exact rs_fl_162
  rcases List.mem_cons.mp h with h | h
  · obtain ⟨rfl, rfl⟩ := Prod.mk.inj h
    exact rs_fl_163
  exact absurd h List.not_mem_nil
def w_c_joinedZ : List Cond := .code yX4_joined cX4_joined 5 (some .long) :: (HAppend.hAppend (α := List Cond) (β := List Cond) (γ := List Cond) [.methodLink RX4 199 Lib.MathLoose.max_long.x, .static Lib.MathLoose.max_long.x, .initialized "java/lang/Math", .code Lib.MathLoose.max_long.x Lib.MathLoose.max_long.code 4 (some .long)] bs2)
set_option maxHeartbeats 4000000 in
set_option maxRecDepth 100000 in
theorem c_joinedZ (l : Launch) (dC : Nat → ClassId) (dI : Nat → Nat → Nat) (kA : Nat → ClassId) (adK adV : Nat → Nat) (G : gT) (H0 : Heap) (nC nS : Int) (p0 : Int32) (p1 : Int64) (p2 : Int64)  (hT : gH (dC, dI) kA (SHc nC nS) G H0) (hgC : 0 ≤ nC ∧ nC ≤ 40) (hgS : 0 ≤ nS ∧ nS ≤ 60) : Met l yX4_joined w_c_joinedZ ({ frames := 1, cells := 0, slots := 0, locals := 40 }) (va_Pc [.int p0, .long p1, .long p2] (fun U => U.heap = H0 ∧ va_K (dC, dI) vwCl (tyl kA) U ∧ EVC adK adV (gA G H0.size) U U.heap)) (va_Ql (fun (r : Int64) (u : Unit) => (r = zjn p0.toInt p1 p2)) (fun (_ : Unit) (t : State) => gH (dC, dI) kA (SHc nC nS) G t.heap ∧ gF (dC, dI) SKc G ([] : List (Nat × Nat)) H0 t.heap) (gA G H0.size)) 0 0 (gA G H0.size) := by
  refine Met.ofW (cc := cX4_joined) (maxL := 5) (ret := (some .long)) (by decide) rfl ?_
  intro p e s m args below meth c s₁ B hml hv
  obtain ⟨rfl, hH0, hK, hE⟩ := hv
  have hx := B.exec
  have hb := B.bytes
  have hr := B.returns
  have hts := atoms_spec (ws := w_c_joinedZ) B.pre
  have hown : s.vm.findClass RX4 = some m.cls := findClass_of_methodNamed B.named
  have hlocks := B.notSynchronized
  subst hH0
  generalize hAe : gA G s.heap.size = A at hE ⊢
  have hA : ∀ q : Nat, s.heap.size ≤ q → A q := fun q h => by rw [← hAe]; exact Or.inr h
  have hG := gA_of hAe
  have hS : va_S A s.heap s.heap [] := va_S.rf
  have hF : gF (dC, dI) SKc G ([] : List (Nat × Nat)) s.heap s.heap := gF.rf
  have hl := lv_entry ([.int p0, .long p1, .long p2]) (n := 5) (Nat.le_of_ble_eq_true rfl)
  rw [lg_entry_eq]
  generalize (lg_sl ([.int p0, .long p1, .long p2]) ++ List.replicate (5 - (lg_sl ([.int p0, .long p1, .long p2])).length) Slot.unset).toArray = ls at hl ⊢
  have hl : lv_has ls 5 [(0, .int p0), (1, .long p1), (3, .long p2)] := hl
  refine lv_iload_n hx hb dX4_joined_0 rfl (lv_at hl 0 rfl) ?_
  by_cases hs1 : p0 = 10
  · subst hs1
    refine lv_tableIn (x := 10) (off := 35) (tgt := 36) hx hb dX4_joined_1 (by decide) (by decide) (by decide) (by decide) ?_
    refine lv_lload_n hx hb dX4_joined_36 rfl (lv_at hl 1 rfl) ?_
    refine lv_lload_n hx hb dX4_joined_37 rfl (lv_at hl 2 rfl) ?_
    refine lv_ladd hx hb dX4_joined_38 ?_
    refine lv_topl (fun y2 ey2 => ?_)
    exact W.lret (v := y2) hx hb hr (fun t ht hW => ⟨⟨y2, (), rfl, (by exact (ey2.trans (zjn_10 (by decide)).symm)), by (try dsimp only); rw [ht]; exact ⟨hT, hF⟩⟩, hS.F ht⟩) hS.2.2 dX4_joined_39
  by_cases hs3 : p0 = 11
  · subst hs3
    refine lv_tableIn (x := 11) (off := 39) (tgt := 40) hx hb dX4_joined_1 (by decide) (by decide) (by decide) (by decide) ?_
    refine lv_lload_n hx hb dX4_joined_40 rfl (lv_at hl 1 rfl) ?_
    refine lv_lload_n hx hb dX4_joined_41 rfl (lv_at hl 2 rfl) ?_
    refine W.lcmp hx hb dX4_joined_42 ?_
    refine lv_topi (fun x4 ex4 => ?_)
    have t5 : (p1.toInt < p2.toInt ∧ x4.toInt = -1) ∨ (p1.toInt = p2.toInt ∧ x4.toInt = 0) ∨ (p2.toInt < p1.toInt ∧ x4.toInt = 1) := tl_c ex4 rfl rfl
    refine lv_if_ge (tgt := 50) hx hb dX4_joined_43 (by decide) (fun c6 => ?_) (fun c6 => ?_)
    · have t7 : 0 ≤ x4.toInt := ti_le c6 (by decide) rfl
      refine lv_lconst (v := 0) hx hb dX4_joined_50 (by decide) ?_
      exact W.lret (v := 0) hx hb hr (fun t ht hW => ⟨⟨0, (), rfl, (by exact ((zjn_11 (by decide)).2 (by omega)).symm), by (try dsimp only); rw [ht]; exact ⟨hT, hF⟩⟩, hS.F ht⟩) hS.2.2 dX4_joined_51
    · have t8 : x4.toInt < 0 := ti_nle c6 (by decide) rfl
      refine lv_lconst (v := 1) hx hb dX4_joined_46 (by decide) ?_
      refine lv_goto (tgt := 51) hx hb dX4_joined_47 (by decide) ?_
      exact W.lret (v := 1) hx hb hr (fun t ht hW => ⟨⟨1, (), rfl, (by exact ((zjn_11 (by decide)).1 (by omega)).symm), by (try dsimp only); rw [ht]; exact ⟨hT, hF⟩⟩, hS.F ht⟩) hS.2.2 dX4_joined_51
  by_cases hs9 : p0 = 12
  · subst hs9
    refine lv_tableIn (x := 12) (off := 51) (tgt := 52) hx hb dX4_joined_1 (by decide) (by decide) (by decide) (by decide) ?_
    refine lv_lload_n hx hb dX4_joined_52 rfl (lv_at hl 1 rfl) ?_
    refine lv_lload_n hx hb dX4_joined_53 rfl (lv_at hl 2 rfl) ?_
    refine W.lcmp hx hb dX4_joined_54 ?_
    refine lv_topi (fun x10 ex10 => ?_)
    have t11 : (p1.toInt < p2.toInt ∧ x10.toInt = -1) ∨ (p1.toInt = p2.toInt ∧ x10.toInt = 0) ∨ (p2.toInt < p1.toInt ∧ x10.toInt = 1) := tl_c ex10 rfl rfl
    refine lv_if_le (tgt := 62) hx hb dX4_joined_55 (by decide) (fun c12 => ?_) (fun c12 => ?_)
    · have t13 : x10.toInt ≤ 0 := ti_le c12 rfl (by decide)
      refine lv_lconst (v := 0) hx hb dX4_joined_62 (by decide) ?_
      exact W.lret (v := 0) hx hb hr (fun t ht hW => ⟨⟨0, (), rfl, (by exact ((zjn_12 (by decide)).2 (by omega)).symm), by (try dsimp only); rw [ht]; exact ⟨hT, hF⟩⟩, hS.F ht⟩) hS.2.2 dX4_joined_63
    · have t14 : 0 < x10.toInt := ti_nle c12 rfl (by decide)
      refine lv_lconst (v := 1) hx hb dX4_joined_58 (by decide) ?_
      refine lv_goto (tgt := 63) hx hb dX4_joined_59 (by decide) ?_
      exact W.lret (v := 1) hx hb hr (fun t ht hW => ⟨⟨1, (), rfl, (by exact ((zjn_12 (by decide)).1 (by omega)).symm), by (try dsimp only); rw [ht]; exact ⟨hT, hF⟩⟩, hS.F ht⟩) hS.2.2 dX4_joined_63
  by_cases hs15 : p0 = 13
  · subst hs15
    refine lv_tableIn (x := 13) (off := 67) (tgt := 68) hx hb dX4_joined_1 (by decide) (by decide) (by decide) (by decide) ?_
    refine lv_lload_n hx hb dX4_joined_68 rfl (lv_at hl 1 rfl) ?_
    refine lv_lload_n hx hb dX4_joined_69 rfl (lv_at hl 2 rfl) ?_
    refine va_mmax_long hx hb (hml.trans hl.1.symm) hown (ht_at2 hts 0 rfl) (ht_at2 hts 1 rfl) (ht_at2 hts 2 rfl) (ht_at2 hts 3 rfl) (Nat.le_of_ble_eq_true rfl) (Nat.le_of_ble_eq_true rfl) (Nat.le_of_ble_eq_true rfl) (Nat.le_of_ble_eq_true rfl) dX4_joined_70 ?_
    refine lv_topl (fun y16 ey16 => ?_)
    exact W.lret (v := y16) hx hb hr (fun t ht hW => ⟨⟨y16, (), rfl, (by exact (ey16.trans (zjn_15 (by first | decide | omega) (by first | decide | omega) (by first | decide | omega) (by first | decide | omega)).symm)), by (try dsimp only); rw [ht]; exact ⟨hT, hF⟩⟩, hS.F ht⟩) hS.2.2 dX4_joined_73
  by_cases hs17 : p0 = 14
  · subst hs17
    refine lv_tableIn (x := 14) (off := 63) (tgt := 64) hx hb dX4_joined_1 (by decide) (by decide) (by decide) (by decide) ?_
    refine lv_lload_n hx hb dX4_joined_64 rfl (lv_at hl 1 rfl) ?_
    refine lv_lload_n hx hb dX4_joined_65 rfl (lv_at hl 2 rfl) ?_
    refine lv_lmul hx hb dX4_joined_66 ?_
    refine lv_topl (fun y18 ey18 => ?_)
    exact W.lret (v := y18) hx hb hr (fun t ht hW => ⟨⟨y18, (), rfl, (by exact (ey18.trans (zjn_14 (by decide)).symm)), by (try dsimp only); rw [ht]; exact ⟨hT, hF⟩⟩, hS.F ht⟩) hS.2.2 dX4_joined_67
  have ho19 : p0.toInt < 10 ∨ 14 < p0.toInt := by
    by_cases hz9 : p0.toInt < 10
    · exact Or.inl hz9
    have u9 : (10 : Int) ≤ p0.toInt := Int.not_lt.mp hz9
    have u9 := ll_nx (k1 := 11) u9 hs1 (by decide) (by decide)
    have u9 := ll_nx (k1 := 12) u9 hs3 (by decide) (by decide)
    have u9 := ll_nx (k1 := 13) u9 hs9 (by decide) (by decide)
    have u9 := ll_nx (k1 := 14) u9 hs15 (by decide) (by decide)
    have u9 := ll_nx (k1 := 15) u9 hs17 (by decide) (by decide)
    exact Or.inr (Int.lt_of_lt_of_le (by decide) u9)
  refine lv_tableOut (tgt := 68) hx hb dX4_joined_1 ho19 (by decide) ?_
  refine lv_lload_n hx hb dX4_joined_68 rfl (lv_at hl 1 rfl) ?_
  refine lv_lload_n hx hb dX4_joined_69 rfl (lv_at hl 2 rfl) ?_
  refine va_mmax_long hx hb (hml.trans hl.1.symm) hown (ht_at2 hts 0 rfl) (ht_at2 hts 1 rfl) (ht_at2 hts 2 rfl) (ht_at2 hts 3 rfl) (Nat.le_of_ble_eq_true rfl) (Nat.le_of_ble_eq_true rfl) (Nat.le_of_ble_eq_true rfl) (Nat.le_of_ble_eq_true rfl) dX4_joined_70 ?_
  refine lv_topl (fun y20 ey20 => ?_)
  exact W.lret (v := y20) hx hb hr (fun t ht hW => ⟨⟨y20, (), rfl, (by exact (ey20.trans (zjn_15 (by first | decide | omega) (by first | decide | omega) (by first | decide | omega) (by first | decide | omega)).symm)), by (try dsimp only); rw [ht]; exact ⟨hT, hF⟩⟩, hS.F ht⟩) hS.2.2 dX4_joined_73
def w_c_lineHoldsZ : List Cond := .code yX4_lineHolds cX4_lineHolds 6 (some .boolean) :: (HAppend.hAppend (α := List Cond) (β := List Cond) (γ := List Cond) [.fieldLink RX4 33 "SeaLand$Law" "stepFrom" "[I", .fieldLink RX4 36 "SeaLand$Law" "stepTo" "[I", .fieldLink RX4 39 "SeaLand$Law" "steps" "[I", .fieldLink RX4 42 "SeaLand$Law" "stack" "[J", .code yX4_joined cX4_joined 5 (some .long), .methodLink RX4 199 Lib.MathLoose.max_long.x, .static Lib.MathLoose.max_long.x, .initialized "java/lang/Math", .code Lib.MathLoose.max_long.x Lib.MathLoose.max_long.code 4 (some .long), .methodLink RX4 195 yX4_joined, .static yX4_joined, .initialized RX4] bs2)
set_option maxHeartbeats 4000000 in
set_option maxRecDepth 100000 in
theorem c_lineHoldsZ (l : Launch) (dC : Nat → ClassId) (dI : Nat → Nat → Nat) (kA : Nat → ClassId) (adK adV : Nat → Nat) (G : gT) (H0 : Heap) (nC nS : Int) (o0 : Nat) (p0 : Int32) (p1 : Nat) (sf : Nat) (sto : Nat) (stp9 : Nat) (stk : Nat) (vF : Nat → Int32) (vT : Nat → Int32) (vS : Nat → Int32) (vQ : Nat → Int64) (fL : Nat → Int64)  (hT : gH (dC, dI) kA (SHc nC nS) G H0) (hr_p1 : G p1 = some 56) (hr_o0 : G o0 = some 7) (hm_sf : el H0 o0 (dI 7 7) = some (.ref sf)) (hr_sf : G sf = some 47) (hm_sto : el H0 o0 (dI 7 8) = some (.ref sto)) (hr_sto : G sto = some 48) (hm_stp9 : el H0 o0 (dI 7 9) = some (.ref stp9)) (hr_stp9 : G stp9 = some 49) (hm_stk : el H0 o0 (dI 7 10) = some (.ref stk)) (hr_stk : G stk = some 50) (hq0 : 0 ≤ p0.toInt ∧ p0.toInt ≤ 19) (hok : zok (zC (tz vS) (vF p0.toNatClampNeg).toNatClampNeg (vT p0.toNatClampNeg).toNatClampNeg)) (hc_vF : ct H0 sf 20 vF) (hc_vT : ct H0 sto 20 vT) (hc_vS : ct H0 stp9 400 vS) (hc_vQ : ctl H0 stk 20 vQ) (hc_fL : ctl H0 p1 10 fL) (hgC : 0 ≤ nC ∧ nC ≤ 40) (hgS : 0 ≤ nS ∧ nS ≤ 60) : Met l yX4_lineHolds w_c_lineHoldsZ ({ frames := 2, cells := 0, slots := 0, locals := 64 }) (va_Pc [.ref o0, .int p0, .ref p1] (fun U => U.heap = H0 ∧ va_K (dC, dI) vwCl (tyl kA) U ∧ EVC adK adV (gA G H0.size) U U.heap)) (va_Qi (fun (r : Int32) (u : Unit) => (0 ≤ r.toInt ∧ r.toInt ≤ 1) ∧ ((r.toInt = 1 ∧ zhd fL (zC (tz vS) (vF p0.toNatClampNeg).toNatClampNeg (vT p0.toNatClampNeg).toNatClampNeg)) ∨ (r.toInt = 0 ∧ ¬ zhd fL (zC (tz vS) (vF p0.toNatClampNeg).toNatClampNeg (vT p0.toNatClampNeg).toNatClampNeg)))) (fun (_ : Unit) (t : State) => gH (dC, dI) kA (SHc nC nS) G t.heap ∧ gF (dC, dI) SKc G ([(50, 0)] : List (Nat × Nat)) H0 t.heap) (gA G H0.size)) 0 0 (gA G H0.size) := by
  refine Met.ofW (cc := cX4_lineHolds) (maxL := 6) (ret := (some .boolean)) (by decide) rfl ?_
  intro p e s m args below meth c s₁ B hml hv
  obtain ⟨rfl, hH0, hK, hE⟩ := hv
  have hx := B.exec
  have hb := B.bytes
  have hr := B.returns
  have hts := atoms_spec (ws := w_c_lineHoldsZ) B.pre
  have hown : s.vm.findClass RX4 = some m.cls := findClass_of_methodNamed B.named
  have hlocks := B.notSynchronized
  subst hH0
  generalize hAe : gA G s.heap.size = A at hE ⊢
  have hA : ∀ q : Nat, s.heap.size ≤ q → A q := fun q h => by rw [← hAe]; exact Or.inr h
  have hG := gA_of hAe
  have hS : va_S A s.heap s.heap [] := va_S.rf
  have hF : gF (dC, dI) SKc G ([(50, 0)] : List (Nat × Nat)) s.heap s.heap := gF.rf
  have hl := lv_entry ([.ref o0, .int p0, .ref p1]) (n := 6) (Nat.le_of_ble_eq_true rfl)
  rw [lg_entry_eq]
  generalize (lg_sl ([.ref o0, .int p0, .ref p1]) ++ List.replicate (6 - (lg_sl ([.ref o0, .int p0, .ref p1])).length) Slot.unset).toArray = ls at hl ⊢
  have hl : lv_has ls 6 [(0, .ref o0), (1, .int p0), (2, .ref p1)] := hl
  obtain ⟨⟨m9, hm9⟩, -⟩ := id hok
  refine lv_iconst (v := 0) hx hb dX4_lineHolds_0 (by decide) ?_
  refine lv_istore_n (lv' := [(3, .int 0), (0, .ref o0), (1, .int p0), (2, .ref p1)]) hx hb dX4_lineHolds_1 rfl hl (by decide) rfl (fun ls hl => ?_)
  refine lv_aload_n hx hb dX4_lineHolds_2 rfl (lv_at hl 1 rfl) ?_
  refine tw_getM (v := .ref sf) hx hb hts bF2_X4 hown hK hT hr_o0 shc_7 rfl 7 (by decide) (ht_at2 hts 0 rfl) (fun _ h9 => h9) hm_sf dX4_lineHolds_3 ?_
  refine lv_iload_n hx hb dX4_lineHolds_6 rfl (lv_at hl 2 rfl) ?_
  refine tw_iald (i := p0) hx hb hK hT hr_sf shc_47 rfl (vin_t (a := p0.toInt) rfl (by omega) (by omega)) dX4_lineHolds_7 (fun v9 m1 h9 => ?_)
  obtain ⟨x2, rfl, gx2, kx2⟩ := h9
  have cx2 := hc_vF.at m1 (by have q9 := tn_of (show p0.toInt = p0.toInt from rfl) (by omega); omega)
  refine lv_istore (lv' := [(4, .int x2), (3, .int 0), (0, .ref o0), (1, .int p0), (2, .ref p1)]) hx hb dX4_lineHolds_8 hl (by decide) rfl (fun ls hl => ?_)
  obtain ⟨k3, hk3, lk3, ek3⟩ := ti_nat x2 (by omega)
  subst ek3
  have key184 : ∀ (n184 i4 : Nat), i4 + n184 = 400 → k3 ≤ i4 → ∀ (z5 : Int32), ∀ (V10 : Nat → Int64), ((0 ≤ z5.toInt ∧ z5.toInt ≤ 20) ∧ (zLp fL (tz vS) (vT p0.toNatClampNeg).toNatClampNeg m9 (zrn fL (zC (tz vS) (vF p0.toNatClampNeg).toNatClampNeg (vT p0.toNatClampNeg).toNatClampNeg) []) i4 z5.toNatClampNeg V10)) → ∀ (H : Heap) (locs : List Loc), gH (dC, dI) kA (SHc nC nS) G H → gF (dC, dI) SKc G ([(50, 0)] : List (Nat × Nat)) s.heap H → va_S A s.heap H locs → ct H sf 20 vF → ct H sto 20 vT → ct H stp9 400 vS → ctl H stk 20 V10 → ctl H p1 10 fL → el H o0 (dI 7 7) = some (.ref sf) → el H o0 (dI 7 8) = some (.ref sto) → el H o0 (dI 7 9) = some (.ref stp9) → el H o0 (dI 7 10) = some (.ref stk) → el H sf p0.toNatClampNeg = some (.int (nI k3)) → ∀ ls : Array Slot, lv_has ls 6 [(4, .int (nI i4)), (3, .int z5), (0, .ref o0), (1, .int p0), (2, .ref p1)] → W p l e (headSpec w_c_lineHoldsZ ({ frames := 2, cells := 0, slots := 0, locals := 64 })).room s m #[.ref o0, .int p0, .ref p1] below meth c H locs 0 0 (MQ below (va_Qi (fun (r : Int32) (u : Unit) => (0 ≤ r.toInt ∧ r.toInt ≤ 1) ∧ ((r.toInt = 1 ∧ zhd fL (zC (tz vS) (vF p0.toNatClampNeg).toNatClampNeg (vT p0.toNatClampNeg).toNatClampNeg)) ∨ (r.toInt = 0 ∧ ¬ zhd fL (zC (tz vS) (vF p0.toNatClampNeg).toNatClampNeg (vT p0.toNatClampNeg).toNatClampNeg)))) (fun (_ : Unit) (t : State) => gH (dC, dI) kA (SHc nC nS) G t.heap ∧ gF (dC, dI) SKc G ([(50, 0)] : List (Nat × Nat)) s.heap t.heap) A) #[.ref o0, .int p0, .ref p1] s 0 0 A) (F0 m 10 ls []) := by
    intro n184
    induction n184 with
    | zero =>
      intro i4 hn184 hlo185 z5 V10 ⟨h6, hj18⟩ H locs hT hF hS m7 m8 m9 m11 m12 m13 m14 m15 m16 m17 ls hl
      obtain rfl : 400 = i4 := by omega
      refine lv_iload hx hb dX4_lineHolds_10 (lv_at hl 0 rfl) ?_
      refine lv_aload_n hx hb dX4_lineHolds_12 rfl (lv_at hl 2 rfl) ?_
      refine tw_getM (v := .ref sto) hx hb hts bF2_X4 hown hK hT hr_o0 shc_7 rfl 8 (by decide) (ht_at2 hts 1 rfl) (fun _ h9 => h9) m14 dX4_lineHolds_13 ?_
      refine lv_iload_n hx hb dX4_lineHolds_16 rfl (lv_at hl 3 rfl) ?_
      refine tw_iald (i := p0) hx hb hK hT hr_sto shc_48 rfl (vin_t (a := p0.toInt) rfl (by omega) (by omega)) dX4_lineHolds_17 (fun v9 m186 h9 => ?_)
      obtain ⟨x187, rfl, gx187, kx187⟩ := h9
      have cx187 := m8.at m186 (by have q9 := tn_of (show p0.toInt = p0.toInt from rfl) (by omega); omega)
      refine lv_icmp_ge (tgt := 169) hx hb dX4_lineHolds_18 (by decide) (fun c188 => ?_) (fun c188 => (by exfalso; have q9 : ((400 : Nat) : Int) < x187.toInt := ti_nle c188 rfl (nI_toInt (by omega)); omega))
      have t189 : x187.toInt ≤ ((400 : Nat) : Int) := ti_le c188 rfl (nI_toInt (by omega))
      refine lv_iload_n hx hb dX4_lineHolds_169 rfl (lv_at hl 1 rfl) ?_
      refine lv_if_eq (tgt := 184) hx hb dX4_lineHolds_170 (by decide) (fun c190 => ?_) (fun c190 => ?_)
      · have t191 : z5.toInt = 0 := ti_eq c190 rfl (by decide)
        refine lv_iconst (v := 1) hx hb dX4_lineHolds_184 (by decide) ?_
        refine lv_goto (tgt := 189) hx hb dX4_lineHolds_185 (by decide) ?_
        exact W.zret (v := 1) hx hb hr (by decide) (fun t ht hW => ⟨⟨1, (), rfl, (by exact ⟨(rg_t (a := 1) (by decide) (by first | decide | omega) (by first | decide | omega)), (Or.inl ⟨by decide, zend_1 hj18 (by have := tn_of (show x187.toInt = x187.toInt from rfl) (by omega); rw [← cx187]; omega) hok (Or.inl (by have := tn_of (show z5.toInt = z5.toInt from rfl) (by omega); omega))⟩)⟩), by (try dsimp only); rw [ht]; exact ⟨hT, hF⟩⟩, hS.F ht⟩) hS.2.2 dX4_lineHolds_189
      · have t192 : z5.toInt ≠ 0 := ti_ne c190 rfl (by decide)
        refine lv_aload_n hx hb dX4_lineHolds_173 rfl (lv_at hl 2 rfl) ?_
        refine tw_getM (v := .ref stk) hx hb hts bF2_X4 hown hK hT hr_o0 shc_7 rfl 10 (by decide) (ht_at2 hts 3 rfl) (fun _ h9 => h9) m16 dX4_lineHolds_174 ?_
        refine lv_iconst (v := 0) hx hb dX4_lineHolds_177 (by decide) ?_
        refine tw_lald (i := 0) hx hb hK hT hr_stk shc_50 rfl (by unfold vp_in; decide) dX4_lineHolds_178 (fun v9 m193 h9 => ?_)
        obtain ⟨y194, rfl⟩ := h9
        have cy194 := m11.at m193 (by have q9 := tn_of (show (0 : Int32).toInt = 0 from (by decide)) (by omega); omega)
        refine lv_lconst (v := 0) hx hb dX4_lineHolds_179 (by decide) ?_
        refine W.lcmp hx hb dX4_lineHolds_180 ?_
        refine lv_topi (fun x195 ex195 => ?_)
        have t196 : (y194.toInt < 0 ∧ x195.toInt = -1) ∨ (y194.toInt = 0 ∧ x195.toInt = 0) ∨ (0 < y194.toInt ∧ x195.toInt = 1) := tl_c ex195 rfl (by decide)
        refine lv_if_eq (tgt := 188) hx hb dX4_lineHolds_181 (by decide) (fun c197 => ?_) (fun c197 => ?_)
        · have t198 : x195.toInt = 0 := ti_eq c197 rfl (by decide)
          refine lv_iconst (v := 0) hx hb dX4_lineHolds_188 (by decide) ?_
          exact W.zret (v := 0) hx hb hr (by decide) (fun t ht hW => ⟨⟨0, (), rfl, (by exact ⟨(rg_t (a := 0) (by decide) (by first | decide | omega) (by first | decide | omega)), (Or.inr ⟨by decide, zend_0 hj18 (by have := tn_of (show x187.toInt = x187.toInt from rfl) (by omega); rw [← cx187]; omega) hok (by have := tn_of (show z5.toInt = z5.toInt from rfl) (by omega); omega) (Or.inl (by rw [show (0 : Nat) = (0 : Int32).toNatClampNeg from by decide, ← cy194]; exact tl_eq (a := 0) (by omega)))⟩)⟩), by (try dsimp only); rw [ht]; exact ⟨hT, hF⟩⟩, hS.F ht⟩) hS.2.2 dX4_lineHolds_189
        · have t199 : x195.toInt ≠ 0 := ti_ne c197 rfl (by decide)
          refine lv_iconst (v := 1) hx hb dX4_lineHolds_184 (by decide) ?_
          refine lv_goto (tgt := 189) hx hb dX4_lineHolds_185 (by decide) ?_
          exact W.zret (v := 1) hx hb hr (by decide) (fun t ht hW => ⟨⟨1, (), rfl, (by exact ⟨(rg_t (a := 1) (by decide) (by first | decide | omega) (by first | decide | omega)), (Or.inl ⟨by decide, zend_1 hj18 (by have := tn_of (show x187.toInt = x187.toInt from rfl) (by omega); rw [← cx187]; omega) hok (Or.inr (fun h8 => by have h7 : y194.toInt = 0 := (by rw [cy194]; exact congrArg Int64.toInt h8); omega))⟩)⟩), by (try dsimp only); rw [ht]; exact ⟨hT, hF⟩⟩, hS.F ht⟩) hS.2.2 dX4_lineHolds_189
    | succ n184 ih184 =>
      intro i4 hn184 hlo185 z5 V10 ⟨h6, hj18⟩ H locs hT hF hS m7 m8 m9 m11 m12 m13 m14 m15 m16 m17 ls hl
      have hlt199 : i4 < 400 := by omega
      refine lv_iload hx hb dX4_lineHolds_10 (lv_at hl 0 rfl) ?_
      refine lv_aload_n hx hb dX4_lineHolds_12 rfl (lv_at hl 2 rfl) ?_
      refine tw_getM (v := .ref sto) hx hb hts bF2_X4 hown hK hT hr_o0 shc_7 rfl 8 (by decide) (ht_at2 hts 1 rfl) (fun _ h9 => h9) m14 dX4_lineHolds_13 ?_
      refine lv_iload_n hx hb dX4_lineHolds_16 rfl (lv_at hl 3 rfl) ?_
      refine tw_iald (i := p0) hx hb hK hT hr_sto shc_48 rfl (vin_t (a := p0.toInt) rfl (by omega) (by omega)) dX4_lineHolds_17 (fun v9 m200 h9 => ?_)
      obtain ⟨x201, rfl, gx201, kx201⟩ := h9
      have cx201 := m8.at m200 (by have q9 := tn_of (show p0.toInt = p0.toInt from rfl) (by omega); omega)
      refine lv_icmp_ge (tgt := 169) hx hb dX4_lineHolds_18 (by decide) (fun c202 => ?_) (fun c202 => ?_)
      · have t203 : x201.toInt ≤ ((i4 : Nat) : Int) := ti_le c202 rfl (nI_toInt (by omega))
        refine lv_iload_n hx hb dX4_lineHolds_169 rfl (lv_at hl 1 rfl) ?_
        refine lv_if_eq (tgt := 184) hx hb dX4_lineHolds_170 (by decide) (fun c204 => ?_) (fun c204 => ?_)
        · have t205 : z5.toInt = 0 := ti_eq c204 rfl (by decide)
          refine lv_iconst (v := 1) hx hb dX4_lineHolds_184 (by decide) ?_
          refine lv_goto (tgt := 189) hx hb dX4_lineHolds_185 (by decide) ?_
          exact W.zret (v := 1) hx hb hr (by decide) (fun t ht hW => ⟨⟨1, (), rfl, (by exact ⟨(rg_t (a := 1) (by decide) (by first | decide | omega) (by first | decide | omega)), (Or.inl ⟨by decide, zend_1 hj18 (by have := tn_of (show x201.toInt = x201.toInt from rfl) (by omega); rw [← cx201]; omega) hok (Or.inl (by have := tn_of (show z5.toInt = z5.toInt from rfl) (by omega); omega))⟩)⟩), by (try dsimp only); rw [ht]; exact ⟨hT, hF⟩⟩, hS.F ht⟩) hS.2.2 dX4_lineHolds_189
        · have t206 : z5.toInt ≠ 0 := ti_ne c204 rfl (by decide)
          refine lv_aload_n hx hb dX4_lineHolds_173 rfl (lv_at hl 2 rfl) ?_
          refine tw_getM (v := .ref stk) hx hb hts bF2_X4 hown hK hT hr_o0 shc_7 rfl 10 (by decide) (ht_at2 hts 3 rfl) (fun _ h9 => h9) m16 dX4_lineHolds_174 ?_
          refine lv_iconst (v := 0) hx hb dX4_lineHolds_177 (by decide) ?_
          refine tw_lald (i := 0) hx hb hK hT hr_stk shc_50 rfl (by unfold vp_in; decide) dX4_lineHolds_178 (fun v9 m207 h9 => ?_)
          obtain ⟨y208, rfl⟩ := h9
          have cy208 := m11.at m207 (by have q9 := tn_of (show (0 : Int32).toInt = 0 from (by decide)) (by omega); omega)
          refine lv_lconst (v := 0) hx hb dX4_lineHolds_179 (by decide) ?_
          refine W.lcmp hx hb dX4_lineHolds_180 ?_
          refine lv_topi (fun x209 ex209 => ?_)
          have t210 : (y208.toInt < 0 ∧ x209.toInt = -1) ∨ (y208.toInt = 0 ∧ x209.toInt = 0) ∨ (0 < y208.toInt ∧ x209.toInt = 1) := tl_c ex209 rfl (by decide)
          refine lv_if_eq (tgt := 188) hx hb dX4_lineHolds_181 (by decide) (fun c211 => ?_) (fun c211 => ?_)
          · have t212 : x209.toInt = 0 := ti_eq c211 rfl (by decide)
            refine lv_iconst (v := 0) hx hb dX4_lineHolds_188 (by decide) ?_
            exact W.zret (v := 0) hx hb hr (by decide) (fun t ht hW => ⟨⟨0, (), rfl, (by exact ⟨(rg_t (a := 0) (by decide) (by first | decide | omega) (by first | decide | omega)), (Or.inr ⟨by decide, zend_0 hj18 (by have := tn_of (show x201.toInt = x201.toInt from rfl) (by omega); rw [← cx201]; omega) hok (by have := tn_of (show z5.toInt = z5.toInt from rfl) (by omega); omega) (Or.inl (by rw [show (0 : Nat) = (0 : Int32).toNatClampNeg from by decide, ← cy208]; exact tl_eq (a := 0) (by omega)))⟩)⟩), by (try dsimp only); rw [ht]; exact ⟨hT, hF⟩⟩, hS.F ht⟩) hS.2.2 dX4_lineHolds_189
          · have t213 : x209.toInt ≠ 0 := ti_ne c211 rfl (by decide)
            refine lv_iconst (v := 1) hx hb dX4_lineHolds_184 (by decide) ?_
            refine lv_goto (tgt := 189) hx hb dX4_lineHolds_185 (by decide) ?_
            exact W.zret (v := 1) hx hb hr (by decide) (fun t ht hW => ⟨⟨1, (), rfl, (by exact ⟨(rg_t (a := 1) (by decide) (by first | decide | omega) (by first | decide | omega)), (Or.inl ⟨by decide, zend_1 hj18 (by have := tn_of (show x201.toInt = x201.toInt from rfl) (by omega); rw [← cx201]; omega) hok (Or.inr (fun h8 => by have h7 : y208.toInt = 0 := (by rw [cy208]; exact congrArg Int64.toInt h8); omega))⟩)⟩), by (try dsimp only); rw [ht]; exact ⟨hT, hF⟩⟩, hS.F ht⟩) hS.2.2 dX4_lineHolds_189
      · have t214 : ((i4 : Nat) : Int) < x201.toInt := ti_nle c202 rfl (nI_toInt (by omega))
        refine lv_aload_n hx hb dX4_lineHolds_21 rfl (lv_at hl 2 rfl) ?_
        refine tw_getM (v := .ref stp9) hx hb hts bF2_X4 hown hK hT hr_o0 shc_7 rfl 9 (by decide) (ht_at2 hts 2 rfl) (fun _ h9 => h9) m15 dX4_lineHolds_22 ?_
        refine lv_iload hx hb dX4_lineHolds_25 (lv_at hl 0 rfl) ?_
        refine tw_iald (i := (nI i4)) hx hb hK hT hr_stp9 shc_49 rfl (vp_in_nI (by omega) (by decide)) dX4_lineHolds_27 (fun v9 m215 h9 => ?_)
        obtain ⟨x216, rfl, gx216, kx216⟩ := h9
        have cx216 := m9.at m215 (by have q9 := tn_of (show (nI i4).toInt = ((i4 : Nat) : Int) from (nI_toInt (by omega))) (by omega); omega)
        have t217 : x201.toInt = (vT p0.toNatClampNeg).toInt := congrArg Int32.toInt cx201
        have t218 : (((vT p0.toNatClampNeg).toNatClampNeg : Nat) : Int) = x201.toInt := (by rw [← cx201]; exact tn_of (show x201.toInt = x201.toInt from rfl) (by omega))
        have t219 : tz vS i4 = x216.toInt := (by rw [cx216, tn_nI (by omega)]; rfl)
        have t220 : ((z5.toNatClampNeg : Nat) : Int) = z5.toInt := tn_of (show z5.toInt = z5.toInt from rfl) (by omega)
        have t221 : ((tz vS i4 < 10 ∨ 40 ≤ tz vS i4) ∧ z5.toNatClampNeg < 20) ∨ (tz vS i4 = 13 ∧ 1 ≤ z5.toNatClampNeg) ∨ ((10 ≤ tz vS i4 ∧ tz vS i4 ≤ 15) ∧ tz vS i4 ≠ 13 ∧ 2 ≤ z5.toNatClampNeg) := zLp_g hj18 (by omega)
        refine lv_istore (lv' := [(5, .int x216), (4, .int (nI i4)), (3, .int z5), (0, .ref o0), (1, .int p0), (2, .ref p1)]) hx hb dX4_lineHolds_28 hl (by decide) rfl (fun ls hl => ?_)
        refine lv_iload hx hb dX4_lineHolds_30 (lv_at hl 0 rfl) ?_
        refine lv_bipush (v := 13) hx hb dX4_lineHolds_32 (by decide) ?_
        have t222 : -2147483648 ≤ x216.toInt ∧ x216.toInt ≤ 2147483647 := ti_all x216
        refine lv_icmp_ne (tgt := 62) hx hb dX4_lineHolds_34 (by decide) (fun c223 => ?_) (fun c223 => ?_)
        · have t224 : x216.toInt ≠ 13 := ti_ne c223 rfl (by decide)
          refine lv_iload hx hb dX4_lineHolds_62 (lv_at hl 0 rfl) ?_
          refine lv_bipush (v := 10) hx hb dX4_lineHolds_64 (by decide) ?_
          refine lv_icmp_lt (tgt := 114) hx hb dX4_lineHolds_66 (by decide) (fun c225 => ?_) (fun c225 => ?_)
          · have t226 : x216.toInt < 10 := ti_lt c225 rfl (by decide)
            refine lv_iload_n hx hb dX4_lineHolds_114 rfl (lv_at hl 2 rfl) ?_
            refine lv_bipush (v := 20) hx hb dX4_lineHolds_115 (by decide) ?_
            refine lv_icmp_ge (tgt := 163) hx hb dX4_lineHolds_117 (by decide) (fun c227 => ?_) (fun c227 => ?_)
            · have t228 : 20 ≤ z5.toInt := ti_le c227 (by decide) rfl
              refine lv_iinc (v := nI (i4 + 1)) (lv' := [(4, .int (nI (i4 + 1))), (5, .int x216), (3, .int z5), (0, .ref o0), (1, .int p0), (2, .ref p1)]) hx hb dX4_lineHolds_163 hl (k := 1) rfl (nI_add i4 1) (by decide) rfl (fun ls hl => ?_)
              refine lv_goto (tgt := 10) hx hb dX4_lineHolds_166 (by decide) ?_
              exact ih184 (i4 + 1) (by omega) (by omega) z5 V10 ⟨(by have q9 := (show z5.toInt = z5.toInt from rfl); (try have q8 := ti_all z5); omega), (by exfalso; omega)⟩ _ _ hT hF hS m7 m8 m9 m11 m12 m13 m14 m15 m16 m17 ls (lv_sub hl [0, 2, 3, 4, 5] rfl)
            · have t229 : z5.toInt < 20 := ti_nle c227 (by decide) rfl
              refine lv_iload hx hb dX4_lineHolds_120 (lv_at hl 0 rfl) ?_
              refine lv_bipush (v := 10) hx hb dX4_lineHolds_122 (by decide) ?_
              refine lv_icmp_lt (tgt := 134) hx hb dX4_lineHolds_124 (by decide) (fun c230 => ?_) (fun c230 => (by exfalso; have q9 : 10 ≤ x216.toInt := ti_nlt c230 rfl (by decide); omega))
              have t231 : x216.toInt < 10 := ti_lt c230 rfl (by decide)
              refine lv_aload_n hx hb dX4_lineHolds_134 rfl (lv_at hl 3 rfl) ?_
              refine tw_getM (v := .ref stk) hx hb hts bF2_X4 hown hK hT hr_o0 shc_7 rfl 10 (by decide) (ht_at2 hts 3 rfl) (fun _ h9 => h9) m16 dX4_lineHolds_135 ?_
              refine lv_iload_n hx hb dX4_lineHolds_138 rfl (lv_at hl 2 rfl) ?_
              refine lv_iload hx hb dX4_lineHolds_139 (lv_at hl 0 rfl) ?_
              refine lv_bipush (v := 40) hx hb dX4_lineHolds_141 (by decide) ?_
              refine lv_icmp_lt (tgt := 155) hx hb dX4_lineHolds_143 (by decide) (fun c232 => ?_) (fun c232 => (by exfalso; have q9 : 40 ≤ x216.toInt := ti_nlt c232 rfl (by decide); omega))
              have t233 : x216.toInt < 40 := ti_lt c232 rfl (by decide)
              refine lv_aload_n hx hb dX4_lineHolds_155 rfl (lv_at hl 5 rfl) ?_
              refine lv_iload hx hb dX4_lineHolds_156 (lv_at hl 0 rfl) ?_
              refine tw_lald (i := x216) hx hb hK hT hr_p1 shc_56 rfl (vin_t (a := x216.toInt) rfl (by omega) (by omega)) dX4_lineHolds_158 (fun v9 m234 h9 => ?_)
              obtain ⟨y235, rfl⟩ := h9
              have cy235 := m12.at m234 (by have q9 := tn_of (show x216.toInt = x216.toInt from rfl) (by omega); omega)
              refine tw_last (i := z5)  hx hb hK hT hG hS hr_stk shc_50 rfl (vin_t (a := z5.toInt) rfl (by omega) (by omega)) ⟨_, rfl⟩ dX4_lineHolds_159 (fun H locs hT oq m236 oi hS => ?_)
              have hF := hF.ast hr_stk skc_50 oq (by decide)
              have m237 := m7.kept (oq _ (gne hr_sf hr_stk (by decide)))
              have m238 := m8.kept (oq _ (gne hr_sto hr_stk (by decide)))
              have m239 := m9.kept (oq _ (gne hr_stp9 hr_stk (by decide)))
              have m240 := m11.put m236 oi
              have m241 := m12.kept (oq _ (gne hr_p1 hr_stk (by decide)))
              have m242 := (el_kept (oq _ (gne hr_o0 hr_stk (by decide)))).trans m13
              have m243 := (el_kept (oq _ (gne hr_o0 hr_stk (by decide)))).trans m14
              have m244 := (el_kept (oq _ (gne hr_o0 hr_stk (by decide)))).trans m15
              have m245 := (el_kept (oq _ (gne hr_o0 hr_stk (by decide)))).trans m16
              have m246 := (el_kept (oq _ (gne hr_sf hr_stk (by decide)))).trans m17
              obtain ⟨x249, ex249⟩ : ∃ y : Int32, y = z5 + 1 := ⟨_, rfl⟩
              have t250 : x249.toInt = z5.toInt + 1 := ti_add ex249 rfl (by decide) (by omega) (by omega)
              refine lv_iinc (v := x249) (lv' := [(3, .int x249), (5, .int x216), (4, .int (nI i4)), (0, .ref o0), (1, .int p0), (2, .ref p1)]) hx hb dX4_lineHolds_160 hl (k := 2) rfl (by first | (rw [ex249]; done) | (rw [ex249]; rfl)) (by decide) rfl (fun ls hl => ?_)
              refine lv_iinc (v := nI (i4 + 1)) (lv' := [(4, .int (nI (i4 + 1))), (3, .int x249), (5, .int x216), (0, .ref o0), (1, .int p0), (2, .ref p1)]) hx hb dX4_lineHolds_163 hl (k := 2) rfl (nI_add i4 1) (by decide) rfl (fun ls hl => ?_)
              refine lv_goto (tgt := 10) hx hb dX4_lineHolds_166 (by decide) ?_
              exact ih184 (i4 + 1) (by omega) (by omega) x249 (cul V10 z5.toNatClampNeg y235) ⟨(by have q9 := (show x249.toInt = x249.toInt from rfl); (try have q8 := ti_all x249); omega), (by have := tn_of (show z5.toInt = z5.toInt from rfl) (by omega); have := tn_of (show x249.toInt = x249.toInt from rfl) (by omega); exact zLp_p hj18 (by omega) (y := y235) (Or.inl ⟨by rw [(show tz vS i4 = x216.toInt from by rw [cx216, tn_nI (by omega)]; rfl)]; omega, by rw [cy235, (show tz vS i4 = x216.toInt from by rw [cx216, tn_nI (by omega)]; rfl)]; exact congrArg fL (by have := tn_of (show x216.toInt = x216.toInt from rfl) (by omega); omega)⟩) (by omega) (by rw [show z5.toNatClampNeg = z5.toNatClampNeg from by omega]))⟩ _ _ hT hF hS m237 m238 m239 m240 m241 m242 m243 m244 m245 m246 ls (lv_sub hl [0, 1, 3, 4, 5] rfl)
          · have t251 : 10 ≤ x216.toInt := ti_nlt c225 rfl (by decide)
            refine lv_iload hx hb dX4_lineHolds_69 (lv_at hl 0 rfl) ?_
            refine lv_bipush (v := 15) hx hb dX4_lineHolds_71 (by decide) ?_
            refine lv_icmp_gt (tgt := 114) hx hb dX4_lineHolds_73 (by decide) (fun c252 => ?_) (fun c252 => ?_)
            · have t253 : 15 < x216.toInt := ti_lt c252 (by decide) rfl
              refine lv_iload_n hx hb dX4_lineHolds_114 rfl (lv_at hl 2 rfl) ?_
              refine lv_bipush (v := 20) hx hb dX4_lineHolds_115 (by decide) ?_
              refine lv_icmp_ge (tgt := 163) hx hb dX4_lineHolds_117 (by decide) (fun c254 => ?_) (fun c254 => ?_)
              · have t255 : 20 ≤ z5.toInt := ti_le c254 (by decide) rfl
                refine lv_iinc (v := nI (i4 + 1)) (lv' := [(4, .int (nI (i4 + 1))), (5, .int x216), (3, .int z5), (0, .ref o0), (1, .int p0), (2, .ref p1)]) hx hb dX4_lineHolds_163 hl (k := 1) rfl (nI_add i4 1) (by decide) rfl (fun ls hl => ?_)
                refine lv_goto (tgt := 10) hx hb dX4_lineHolds_166 (by decide) ?_
                exact ih184 (i4 + 1) (by omega) (by omega) z5 V10 ⟨(by have q9 := (show z5.toInt = z5.toInt from rfl); (try have q8 := ti_all z5); omega), (by exfalso; omega)⟩ _ _ hT hF hS m7 m8 m9 m11 m12 m13 m14 m15 m16 m17 ls (lv_sub hl [0, 2, 3, 4, 5] rfl)
              · have t256 : z5.toInt < 20 := ti_nle c254 (by decide) rfl
                refine lv_iload hx hb dX4_lineHolds_120 (lv_at hl 0 rfl) ?_
                refine lv_bipush (v := 10) hx hb dX4_lineHolds_122 (by decide) ?_
                refine lv_icmp_lt (tgt := 134) hx hb dX4_lineHolds_124 (by decide) (fun c257 => (by exfalso; have q9 : x216.toInt < 10 := ti_lt c257 rfl (by decide); have := ti_all x216; omega)) (fun c257 => ?_)
                have t258 : 10 ≤ x216.toInt := ti_nlt c257 rfl (by decide)
                refine lv_iload hx hb dX4_lineHolds_127 (lv_at hl 0 rfl) ?_
                refine lv_bipush (v := 40) hx hb dX4_lineHolds_129 (by decide) ?_
                refine lv_icmp_lt (tgt := 163) hx hb dX4_lineHolds_131 (by decide) (fun c259 => ?_) (fun c259 => ?_)
                · have t260 : x216.toInt < 40 := ti_lt c259 rfl (by decide)
                  refine lv_iinc (v := nI (i4 + 1)) (lv' := [(4, .int (nI (i4 + 1))), (5, .int x216), (3, .int z5), (0, .ref o0), (1, .int p0), (2, .ref p1)]) hx hb dX4_lineHolds_163 hl (k := 1) rfl (nI_add i4 1) (by decide) rfl (fun ls hl => ?_)
                  refine lv_goto (tgt := 10) hx hb dX4_lineHolds_166 (by decide) ?_
                  exact ih184 (i4 + 1) (by omega) (by omega) z5 V10 ⟨(by have q9 := (show z5.toInt = z5.toInt from rfl); (try have q8 := ti_all z5); omega), (by exfalso; omega)⟩ _ _ hT hF hS m7 m8 m9 m11 m12 m13 m14 m15 m16 m17 ls (lv_sub hl [0, 2, 3, 4, 5] rfl)
                · have t261 : 40 ≤ x216.toInt := ti_nlt c259 rfl (by decide)
                  refine lv_aload_n hx hb dX4_lineHolds_134 rfl (lv_at hl 3 rfl) ?_
                  refine tw_getM (v := .ref stk) hx hb hts bF2_X4 hown hK hT hr_o0 shc_7 rfl 10 (by decide) (ht_at2 hts 3 rfl) (fun _ h9 => h9) m16 dX4_lineHolds_135 ?_
                  refine lv_iload_n hx hb dX4_lineHolds_138 rfl (lv_at hl 2 rfl) ?_
                  refine lv_iload hx hb dX4_lineHolds_139 (lv_at hl 0 rfl) ?_
                  refine lv_bipush (v := 40) hx hb dX4_lineHolds_141 (by decide) ?_
                  refine lv_icmp_lt (tgt := 155) hx hb dX4_lineHolds_143 (by decide) (fun c262 => (by exfalso; have q9 : x216.toInt < 40 := ti_lt c262 rfl (by decide); have := ti_all x216; omega)) (fun c262 => ?_)
                  have t263 : 40 ≤ x216.toInt := ti_nlt c262 rfl (by decide)
                  refine lv_iload hx hb dX4_lineHolds_146 (lv_at hl 0 rfl) ?_
                  refine lv_bipush (v := 40) hx hb dX4_lineHolds_148 (by decide) ?_
                  refine lv_isub hx hb dX4_lineHolds_150 ?_
                  refine lv_topi (fun x264 ex264 => ?_)
                  have t265 : x264.toInt = x216.toInt - 40 := ti_sub ex264 rfl (by decide) (by omega) (by omega)
                  refine lv_i2l (v := x264.toInt64) hx hb dX4_lineHolds_151 rfl ?_
                  refine lv_goto (tgt := 159) hx hb dX4_lineHolds_152 (by decide) ?_
                  refine tw_last (i := z5)  hx hb hK hT hG hS hr_stk shc_50 rfl (vin_t (a := z5.toInt) rfl (by omega) (by omega)) ⟨_, rfl⟩ dX4_lineHolds_159 (fun H locs hT oq m266 oi hS => ?_)
                  have hF := hF.ast hr_stk skc_50 oq (by decide)
                  have m267 := m7.kept (oq _ (gne hr_sf hr_stk (by decide)))
                  have m268 := m8.kept (oq _ (gne hr_sto hr_stk (by decide)))
                  have m269 := m9.kept (oq _ (gne hr_stp9 hr_stk (by decide)))
                  have m270 := m11.put m266 oi
                  have m271 := m12.kept (oq _ (gne hr_p1 hr_stk (by decide)))
                  have m272 := (el_kept (oq _ (gne hr_o0 hr_stk (by decide)))).trans m13
                  have m273 := (el_kept (oq _ (gne hr_o0 hr_stk (by decide)))).trans m14
                  have m274 := (el_kept (oq _ (gne hr_o0 hr_stk (by decide)))).trans m15
                  have m275 := (el_kept (oq _ (gne hr_o0 hr_stk (by decide)))).trans m16
                  have m276 := (el_kept (oq _ (gne hr_sf hr_stk (by decide)))).trans m17
                  obtain ⟨x279, ex279⟩ : ∃ y : Int32, y = z5 + 1 := ⟨_, rfl⟩
                  have t280 : x279.toInt = z5.toInt + 1 := ti_add ex279 rfl (by decide) (by omega) (by omega)
                  refine lv_iinc (v := x279) (lv' := [(3, .int x279), (5, .int x216), (4, .int (nI i4)), (0, .ref o0), (1, .int p0), (2, .ref p1)]) hx hb dX4_lineHolds_160 hl (k := 2) rfl (by first | (rw [ex279]; done) | (rw [ex279]; rfl)) (by decide) rfl (fun ls hl => ?_)
                  refine lv_iinc (v := nI (i4 + 1)) (lv' := [(4, .int (nI (i4 + 1))), (3, .int x279), (5, .int x216), (0, .ref o0), (1, .int p0), (2, .ref p1)]) hx hb dX4_lineHolds_163 hl (k := 2) rfl (nI_add i4 1) (by decide) rfl (fun ls hl => ?_)
                  refine lv_goto (tgt := 10) hx hb dX4_lineHolds_166 (by decide) ?_
                  exact ih184 (i4 + 1) (by omega) (by omega) x279 (cul V10 z5.toNatClampNeg x264.toInt64) ⟨(by have q9 := (show x279.toInt = x279.toInt from rfl); (try have q8 := ti_all x279); omega), (by have := tn_of (show z5.toInt = z5.toInt from rfl) (by omega); have := tn_of (show x279.toInt = x279.toInt from rfl) (by omega); exact zLp_p hj18 (by omega) (y := x264.toInt64) (Or.inr ⟨by rw [(show tz vS i4 = x216.toInt from by rw [cx216, tn_nI (by omega)]; rfl)]; omega, by rw [(show tz vS i4 = x216.toInt from by rw [cx216, tn_nI (by omega)]; rfl), i2l_of]; exact congrArg Int64.ofInt (by omega)⟩) (by omega) (by rw [show z5.toNatClampNeg = z5.toNatClampNeg from by omega]))⟩ _ _ hT hF hS m267 m268 m269 m270 m271 m272 m273 m274 m275 m276 ls (lv_sub hl [0, 1, 3, 4, 5] rfl)
            · have t281 : x216.toInt ≤ 15 := ti_nlt c252 (by decide) rfl
              refine lv_iload_n hx hb dX4_lineHolds_76 rfl (lv_at hl 2 rfl) ?_
              refine lv_iconst (v := 1) hx hb dX4_lineHolds_77 (by decide) ?_
              refine lv_icmp_le (tgt := 114) hx hb dX4_lineHolds_78 (by decide) (fun c282 => ?_) (fun c282 => ?_)
              · have t283 : z5.toInt ≤ 1 := ti_le c282 rfl (by decide)
                refine lv_iload_n hx hb dX4_lineHolds_114 rfl (lv_at hl 2 rfl) ?_
                refine lv_bipush (v := 20) hx hb dX4_lineHolds_115 (by decide) ?_
                refine lv_icmp_ge (tgt := 163) hx hb dX4_lineHolds_117 (by decide) (fun c284 => (by exfalso; have q9 : 20 ≤ z5.toInt := ti_le c284 (by decide) rfl; omega)) (fun c284 => ?_)
                have t285 : z5.toInt < 20 := ti_nle c284 (by decide) rfl
                refine lv_iload hx hb dX4_lineHolds_120 (lv_at hl 0 rfl) ?_
                refine lv_bipush (v := 10) hx hb dX4_lineHolds_122 (by decide) ?_
                refine lv_icmp_lt (tgt := 134) hx hb dX4_lineHolds_124 (by decide) (fun c286 => (by exfalso; have q9 : x216.toInt < 10 := ti_lt c286 rfl (by decide); omega)) (fun c286 => ?_)
                have t287 : 10 ≤ x216.toInt := ti_nlt c286 rfl (by decide)
                refine lv_iload hx hb dX4_lineHolds_127 (lv_at hl 0 rfl) ?_
                refine lv_bipush (v := 40) hx hb dX4_lineHolds_129 (by decide) ?_
                refine lv_icmp_lt (tgt := 163) hx hb dX4_lineHolds_131 (by decide) (fun c288 => ?_) (fun c288 => (by exfalso; have q9 : 40 ≤ x216.toInt := ti_nlt c288 rfl (by decide); omega))
                have t289 : x216.toInt < 40 := ti_lt c288 rfl (by decide)
                refine lv_iinc (v := nI (i4 + 1)) (lv' := [(4, .int (nI (i4 + 1))), (5, .int x216), (3, .int z5), (0, .ref o0), (1, .int p0), (2, .ref p1)]) hx hb dX4_lineHolds_163 hl (k := 1) rfl (nI_add i4 1) (by decide) rfl (fun ls hl => ?_)
                refine lv_goto (tgt := 10) hx hb dX4_lineHolds_166 (by decide) ?_
                exact ih184 (i4 + 1) (by omega) (by omega) z5 V10 ⟨(by have q9 := (show z5.toInt = z5.toInt from rfl); (try have q8 := ti_all z5); omega), (by exfalso; omega)⟩ _ _ hT hF hS m7 m8 m9 m11 m12 m13 m14 m15 m16 m17 ls (lv_sub hl [0, 2, 3, 4, 5] rfl)
              · have t290 : 1 < z5.toInt := ti_nle c282 rfl (by decide)
                obtain ⟨x291, ex291⟩ : ∃ y : Int32, y = z5 + (-1) := ⟨_, rfl⟩
                have t292 : x291.toInt = z5.toInt + (-1) := ti_add ex291 rfl (by decide) (by omega) (by omega)
                refine lv_iinc (v := x291) (lv' := [(3, .int x291), (5, .int x216), (4, .int (nI i4)), (0, .ref o0), (1, .int p0), (2, .ref p1)]) hx hb dX4_lineHolds_81 hl (k := 2) rfl (by first | (rw [ex291]; done) | (rw [ex291]; rfl)) (by decide) rfl (fun ls hl => ?_)
                refine lv_aload_n hx hb dX4_lineHolds_84 rfl (lv_at hl 3 rfl) ?_
                refine tw_getM (v := .ref stk) hx hb hts bF2_X4 hown hK hT hr_o0 shc_7 rfl 10 (by decide) (ht_at2 hts 3 rfl) (fun _ h9 => h9) m16 dX4_lineHolds_85 ?_
                refine lv_iload_n hx hb dX4_lineHolds_88 rfl (lv_at hl 0 rfl) ?_
                refine lv_iconst (v := 1) hx hb dX4_lineHolds_89 (by decide) ?_
                refine lv_isub hx hb dX4_lineHolds_90 ?_
                refine lv_topi (fun x293 ex293 => ?_)
                have t294 : x293.toInt = x291.toInt - 1 := ti_sub ex293 rfl (by decide) (by omega) (by omega)
                refine lv_iload hx hb dX4_lineHolds_91 (lv_at hl 1 rfl) ?_
                refine lv_aload_n hx hb dX4_lineHolds_93 rfl (lv_at hl 3 rfl) ?_
                refine tw_getM (v := .ref stk) hx hb hts bF2_X4 hown hK hT hr_o0 shc_7 rfl 10 (by decide) (ht_at2 hts 3 rfl) (fun _ h9 => h9) m16 dX4_lineHolds_94 ?_
                refine lv_iload_n hx hb dX4_lineHolds_97 rfl (lv_at hl 0 rfl) ?_
                refine lv_iconst (v := 1) hx hb dX4_lineHolds_98 (by decide) ?_
                refine lv_isub hx hb dX4_lineHolds_99 ?_
                refine lv_topi (fun x295 ex295 => ?_)
                have t296 : x295.toInt = x291.toInt - 1 := ti_sub ex295 rfl (by decide) (by omega) (by omega)
                refine tw_lald (i := x295) hx hb hK hT hr_stk shc_50 rfl (vin_t (a := x295.toInt) rfl (by omega) (by omega)) dX4_lineHolds_100 (fun v9 m297 h9 => ?_)
                obtain ⟨y298, rfl⟩ := h9
                have cy298 := m11.at m297 (by have q9 := tn_of (show x295.toInt = x295.toInt from rfl) (by omega); omega)
                refine lv_aload_n hx hb dX4_lineHolds_101 rfl (lv_at hl 3 rfl) ?_
                refine tw_getM (v := .ref stk) hx hb hts bF2_X4 hown hK hT hr_o0 shc_7 rfl 10 (by decide) (ht_at2 hts 3 rfl) (fun _ h9 => h9) m16 dX4_lineHolds_102 ?_
                refine lv_iload_n hx hb dX4_lineHolds_105 rfl (lv_at hl 0 rfl) ?_
                refine tw_lald (i := x291) hx hb hK hT hr_stk shc_50 rfl (vin_t (a := x291.toInt) rfl (by omega) (by omega)) dX4_lineHolds_106 (fun v9 m299 h9 => ?_)
                obtain ⟨y300, rfl⟩ := h9
                have cy300 := m11.at m299 (by have q9 := tn_of (show x291.toInt = x291.toInt from rfl) (by omega); omega)
                have hFc := gA_free hG hA hS
                refine va_calll (va_runS (As := [.int x216, .long y298, .long y300]) (rest := [.int x293, .ref stk]) ⟨hx, hb, hml, hown, hts⟩ (c_joinedZ l dC dI kA adK adV G H nC nS x216 y298 y300 hT (by omega) (by omega)) (va_cwS 3 hts (goodIn_app (goodIn_r _ [10, 11, 12] rfl (by decide +kernel)) (goodIn_ca (goodIn_r _ [5, 6, 7, 8, 9] rfl (by decide +kernel)) (bs2_in _ _))) rfl rfl rfl (by decide +kernel) ⟨(Nat.le_of_ble_eq_true rfl), (Nat.le_of_ble_eq_true rfl)⟩) ⟨fun a U g mk q => by obtain ⟨q0, q1, qK, qE⟩ := q; exact ⟨q0, q1, va_K.moved (u := U) (U := U.calling g mk a) (Vm.Alike.refl U.vm) qK, EVC.blind g mk a qE⟩, fun U hU hW => ⟨rfl, hU, va_K.moved hW.alike hK, hE.call hS hFc hU hW⟩⟩ rfl rfl hl.1 rfl (lv_room (Nat.le_of_ble_eq_true rfl)) dX4_lineHolds_107 ⟨(Nat.le_of_ble_eq_true rfl), (Nat.le_of_ble_eq_true rfl)⟩) hS (fun q _ h => hFc q h) hFc (fun r301 u t H locs ht hvm hw302 hB _ _ hS => ?_)
                obtain ⟨hT, hF1⟩ := hB
                rw [ht] at hT hF1
                have m303 := m7.kept (hF1.arr hr_sf skc_47 (by decide))
                have m304 := m8.kept (hF1.arr hr_sto skc_48 (by decide))
                have m305 := m9.kept (hF1.arr hr_stp9 skc_49 (by decide))
                have m306 := m11.kept (hF1.arr hr_stk skc_50 (by decide))
                have m307 := m12.kept (hF1.arr hr_p1 skc_56 (by decide))
                have m308 := (hF1.fld hr_o0 skc_7 (k := 7) (by decide) (by decide)).trans m13
                have m309 := (hF1.fld hr_o0 skc_7 (k := 8) (by decide) (by decide)).trans m14
                have m310 := (hF1.fld hr_o0 skc_7 (k := 9) (by decide) (by decide)).trans m15
                have m311 := (hF1.fld hr_o0 skc_7 (k := 10) (by decide) (by decide)).trans m16
                have m312 := (el_kept (hF1.arr hr_sf skc_47 (by decide))).trans m17
                have hF := hF.more hF1 (by decide)
                try dsimp only at hw302
                have hf315 := hw302
                refine tw_last (i := x293)  hx hb hK hT hG hS hr_stk shc_50 rfl (vin_t (a := x293.toInt) rfl (by omega) (by omega)) ⟨_, rfl⟩ dX4_lineHolds_110 (fun H locs hT oq m316 oi hS => ?_)
                have hF := hF.ast hr_stk skc_50 oq (by decide)
                have m317 := m303.kept (oq _ (gne hr_sf hr_stk (by decide)))
                have m318 := m304.kept (oq _ (gne hr_sto hr_stk (by decide)))
                have m319 := m305.kept (oq _ (gne hr_stp9 hr_stk (by decide)))
                have m320 := m306.put m316 oi
                have m321 := m307.kept (oq _ (gne hr_p1 hr_stk (by decide)))
                have m322 := (el_kept (oq _ (gne hr_o0 hr_stk (by decide)))).trans m308
                have m323 := (el_kept (oq _ (gne hr_o0 hr_stk (by decide)))).trans m309
                have m324 := (el_kept (oq _ (gne hr_o0 hr_stk (by decide)))).trans m310
                have m325 := (el_kept (oq _ (gne hr_o0 hr_stk (by decide)))).trans m311
                have m326 := (el_kept (oq _ (gne hr_sf hr_stk (by decide)))).trans m312
                refine lv_goto (tgt := 163) hx hb dX4_lineHolds_111 (by decide) ?_
                refine lv_iinc (v := nI (i4 + 1)) (lv' := [(4, .int (nI (i4 + 1))), (3, .int x291), (5, .int x216), (0, .ref o0), (1, .int p0), (2, .ref p1)]) hx hb dX4_lineHolds_163 hl (k := 2) rfl (nI_add i4 1) (by decide) rfl (fun ls hl => ?_)
                refine lv_goto (tgt := 10) hx hb dX4_lineHolds_166 (by decide) ?_
                exact ih184 (i4 + 1) (by omega) (by omega) x291 (cul V10 x293.toNatClampNeg r301) ⟨(by have q9 := (show x291.toInt = x291.toInt from rfl); (try have q8 := ti_all x291); omega), (by have := tn_of (show z5.toInt = z5.toInt from rfl) (by omega); have := tn_of (show x291.toInt = x291.toInt from rfl) (by omega); have := tn_of (show x293.toInt = x293.toInt from rfl) (by omega); have := tn_of (show x295.toInt = x295.toInt from rfl) (by omega); exact zLp_j hj18 (by omega) (by rw [(show tz vS i4 = x216.toInt from by rw [cx216, tn_nI (by omega)]; rfl)]; omega) (by rw [(show tz vS i4 = x216.toInt from by rw [cx216, tn_nI (by omega)]; rfl)]; omega) (by omega) (y := r301) (by rw [hf315, (show tz vS i4 = x216.toInt from by rw [cx216, tn_nI (by omega)]; rfl), cy298, cy300, show x295.toNatClampNeg = z5.toNatClampNeg - 2 from by omega, show x291.toNatClampNeg = z5.toNatClampNeg - 1 from by omega]) (by rw [show x293.toNatClampNeg = z5.toNatClampNeg - 2 from by omega]))⟩ _ _ hT hF hS m317 m318 m319 m320 m321 m322 m323 m324 m325 m326 ls (lv_sub hl [0, 1, 3, 4, 5] rfl)
        · have t329 : x216.toInt = 13 := ti_eq c223 rfl (by decide)
          refine lv_iload_n hx hb dX4_lineHolds_37 rfl (lv_at hl 2 rfl) ?_
          refine lv_if_le (tgt := 62) hx hb dX4_lineHolds_38 (by decide) (fun c330 => ?_) (fun c330 => ?_)
          · have t331 : z5.toInt ≤ 0 := ti_le c330 rfl (by decide)
            refine lv_iload hx hb dX4_lineHolds_62 (lv_at hl 0 rfl) ?_
            refine lv_bipush (v := 10) hx hb dX4_lineHolds_64 (by decide) ?_
            refine lv_icmp_lt (tgt := 114) hx hb dX4_lineHolds_66 (by decide) (fun c332 => (by exfalso; have q9 : x216.toInt < 10 := ti_lt c332 rfl (by decide); omega)) (fun c332 => ?_)
            have t333 : 10 ≤ x216.toInt := ti_nlt c332 rfl (by decide)
            refine lv_iload hx hb dX4_lineHolds_69 (lv_at hl 0 rfl) ?_
            refine lv_bipush (v := 15) hx hb dX4_lineHolds_71 (by decide) ?_
            refine lv_icmp_gt (tgt := 114) hx hb dX4_lineHolds_73 (by decide) (fun c334 => (by exfalso; have q9 : 15 < x216.toInt := ti_lt c334 (by decide) rfl; omega)) (fun c334 => ?_)
            have t335 : x216.toInt ≤ 15 := ti_nlt c334 (by decide) rfl
            refine lv_iload_n hx hb dX4_lineHolds_76 rfl (lv_at hl 2 rfl) ?_
            refine lv_iconst (v := 1) hx hb dX4_lineHolds_77 (by decide) ?_
            refine lv_icmp_le (tgt := 114) hx hb dX4_lineHolds_78 (by decide) (fun c336 => ?_) (fun c336 => (by exfalso; have q9 : 1 < z5.toInt := ti_nle c336 rfl (by decide); omega))
            have t337 : z5.toInt ≤ 1 := ti_le c336 rfl (by decide)
            refine lv_iload_n hx hb dX4_lineHolds_114 rfl (lv_at hl 2 rfl) ?_
            refine lv_bipush (v := 20) hx hb dX4_lineHolds_115 (by decide) ?_
            refine lv_icmp_ge (tgt := 163) hx hb dX4_lineHolds_117 (by decide) (fun c338 => (by exfalso; have q9 : 20 ≤ z5.toInt := ti_le c338 (by decide) rfl; omega)) (fun c338 => ?_)
            have t339 : z5.toInt < 20 := ti_nle c338 (by decide) rfl
            refine lv_iload hx hb dX4_lineHolds_120 (lv_at hl 0 rfl) ?_
            refine lv_bipush (v := 10) hx hb dX4_lineHolds_122 (by decide) ?_
            refine lv_icmp_lt (tgt := 134) hx hb dX4_lineHolds_124 (by decide) (fun c340 => (by exfalso; have q9 : x216.toInt < 10 := ti_lt c340 rfl (by decide); omega)) (fun c340 => ?_)
            have t341 : 10 ≤ x216.toInt := ti_nlt c340 rfl (by decide)
            refine lv_iload hx hb dX4_lineHolds_127 (lv_at hl 0 rfl) ?_
            refine lv_bipush (v := 40) hx hb dX4_lineHolds_129 (by decide) ?_
            refine lv_icmp_lt (tgt := 163) hx hb dX4_lineHolds_131 (by decide) (fun c342 => ?_) (fun c342 => (by exfalso; have q9 : 40 ≤ x216.toInt := ti_nlt c342 rfl (by decide); omega))
            have t343 : x216.toInt < 40 := ti_lt c342 rfl (by decide)
            refine lv_iinc (v := nI (i4 + 1)) (lv' := [(4, .int (nI (i4 + 1))), (5, .int x216), (3, .int z5), (0, .ref o0), (1, .int p0), (2, .ref p1)]) hx hb dX4_lineHolds_163 hl (k := 1) rfl (nI_add i4 1) (by decide) rfl (fun ls hl => ?_)
            refine lv_goto (tgt := 10) hx hb dX4_lineHolds_166 (by decide) ?_
            exact ih184 (i4 + 1) (by omega) (by omega) z5 V10 ⟨(by have q9 := (show z5.toInt = z5.toInt from rfl); (try have q8 := ti_all z5); omega), (by exfalso; omega)⟩ _ _ hT hF hS m7 m8 m9 m11 m12 m13 m14 m15 m16 m17 ls (lv_sub hl [0, 2, 3, 4, 5] rfl)
          · have t344 : 0 < z5.toInt := ti_nle c330 rfl (by decide)
            refine lv_aload_n hx hb dX4_lineHolds_41 rfl (lv_at hl 3 rfl) ?_
            refine tw_getM (v := .ref stk) hx hb hts bF2_X4 hown hK hT hr_o0 shc_7 rfl 10 (by decide) (ht_at2 hts 3 rfl) (fun _ h9 => h9) m16 dX4_lineHolds_42 ?_
            refine lv_iload_n hx hb dX4_lineHolds_45 rfl (lv_at hl 2 rfl) ?_
            refine lv_iconst (v := 1) hx hb dX4_lineHolds_46 (by decide) ?_
            refine lv_isub hx hb dX4_lineHolds_47 ?_
            refine lv_topi (fun x345 ex345 => ?_)
            have t346 : x345.toInt = z5.toInt - 1 := ti_sub ex345 rfl (by decide) (by omega) (by omega)
            refine lv_lconst (v := 1) hx hb dX4_lineHolds_48 (by decide) ?_
            refine lv_aload_n hx hb dX4_lineHolds_49 rfl (lv_at hl 3 rfl) ?_
            refine tw_getM (v := .ref stk) hx hb hts bF2_X4 hown hK hT hr_o0 shc_7 rfl 10 (by decide) (ht_at2 hts 3 rfl) (fun _ h9 => h9) m16 dX4_lineHolds_50 ?_
            refine lv_iload_n hx hb dX4_lineHolds_53 rfl (lv_at hl 2 rfl) ?_
            refine lv_iconst (v := 1) hx hb dX4_lineHolds_54 (by decide) ?_
            refine lv_isub hx hb dX4_lineHolds_55 ?_
            refine lv_topi (fun x347 ex347 => ?_)
            have t348 : x347.toInt = z5.toInt - 1 := ti_sub ex347 rfl (by decide) (by omega) (by omega)
            refine tw_lald (i := x347) hx hb hK hT hr_stk shc_50 rfl (vin_t (a := x347.toInt) rfl (by omega) (by omega)) dX4_lineHolds_56 (fun v9 m349 h9 => ?_)
            obtain ⟨y350, rfl⟩ := h9
            have cy350 := m11.at m349 (by have q9 := tn_of (show x347.toInt = x347.toInt from rfl) (by omega); omega)
            refine lv_lsub hx hb dX4_lineHolds_57 ?_
            refine lv_topl (fun y351 ey351 => ?_)
            refine tw_last (i := x345)  hx hb hK hT hG hS hr_stk shc_50 rfl (vin_t (a := x345.toInt) rfl (by omega) (by omega)) ⟨_, rfl⟩ dX4_lineHolds_58 (fun H locs hT oq m352 oi hS => ?_)
            have hF := hF.ast hr_stk skc_50 oq (by decide)
            have m353 := m7.kept (oq _ (gne hr_sf hr_stk (by decide)))
            have m354 := m8.kept (oq _ (gne hr_sto hr_stk (by decide)))
            have m355 := m9.kept (oq _ (gne hr_stp9 hr_stk (by decide)))
            have m356 := m11.put m352 oi
            have m357 := m12.kept (oq _ (gne hr_p1 hr_stk (by decide)))
            have m358 := (el_kept (oq _ (gne hr_o0 hr_stk (by decide)))).trans m13
            have m359 := (el_kept (oq _ (gne hr_o0 hr_stk (by decide)))).trans m14
            have m360 := (el_kept (oq _ (gne hr_o0 hr_stk (by decide)))).trans m15
            have m361 := (el_kept (oq _ (gne hr_o0 hr_stk (by decide)))).trans m16
            have m362 := (el_kept (oq _ (gne hr_sf hr_stk (by decide)))).trans m17
            refine lv_goto (tgt := 163) hx hb dX4_lineHolds_59 (by decide) ?_
            refine lv_iinc (v := nI (i4 + 1)) (lv' := [(4, .int (nI (i4 + 1))), (5, .int x216), (3, .int z5), (0, .ref o0), (1, .int p0), (2, .ref p1)]) hx hb dX4_lineHolds_163 hl (k := 1) rfl (nI_add i4 1) (by decide) rfl (fun ls hl => ?_)
            refine lv_goto (tgt := 10) hx hb dX4_lineHolds_166 (by decide) ?_
            exact ih184 (i4 + 1) (by omega) (by omega) z5 (cul V10 x345.toNatClampNeg y351) ⟨(by have q9 := (show z5.toInt = z5.toInt from rfl); (try have q8 := ti_all z5); omega), (by have := tn_of (show z5.toInt = z5.toInt from rfl) (by omega); have := tn_of (show x345.toInt = x345.toInt from rfl) (by omega); have := tn_of (show x347.toInt = x347.toInt from rfl) (by omega); exact zLp_t hj18 (by omega) (by rw [(show tz vS i4 = x216.toInt from by rw [cx216, tn_nI (by omega)]; rfl)]; omega) (y := y351) (by rw [ey351, cy350, show x347.toNatClampNeg = z5.toNatClampNeg - 1 from by omega]) (by rw [show x345.toNatClampNeg = z5.toNatClampNeg - 1 from by omega]))⟩ _ _ hT hF hS m353 m354 m355 m356 m357 m358 m359 m360 m361 m362 ls (lv_sub hl [0, 2, 3, 4, 5] rfl)
  exact key184 (400 - k3) k3 (by omega) (Nat.le_refl _) 0 vQ ⟨(by have q9 := (show (0 : Int32).toInt = 0 from (by decide)); (try have q8 := ti_all (0 : Int32)); omega), (zLp_0 hm9 (by rw [← cx2]; exact (tn_nI (by omega)).symm) (by decide))⟩ _ _ hT hF hS hc_vF hc_vT hc_vS hc_vQ hc_fL hm_sf hm_sto hm_stp9 hm_stk m1 ls (lv_sub hl [0, 1, 2, 3, 4] rfl)
def w_c_firstThatHoldsZ : List Cond := .code yX4_firstThatHolds cX4_firstThatHolds 4 (some .int) :: (HAppend.hAppend (α := List Cond) (β := List Cond) (γ := List Cond) [.fieldLink RX4 60 "SeaLand$Law" "lines" "I", .fieldLink RX4 18 "SeaLand$Law" "kinds" "[I", .code yX4_lineHolds cX4_lineHolds 6 (some .boolean), .fieldLink RX4 33 "SeaLand$Law" "stepFrom" "[I", .fieldLink RX4 36 "SeaLand$Law" "stepTo" "[I", .fieldLink RX4 39 "SeaLand$Law" "steps" "[I", .fieldLink RX4 42 "SeaLand$Law" "stack" "[J", .code yX4_joined cX4_joined 5 (some .long), .methodLink RX4 199 Lib.MathLoose.max_long.x, .static Lib.MathLoose.max_long.x, .initialized "java/lang/Math", .code Lib.MathLoose.max_long.x Lib.MathLoose.max_long.code 4 (some .long), .methodLink RX4 195 yX4_joined, .static yX4_joined, .initialized RX4, .methodLink RX4 203 yX4_lineHolds, .instanceMethod yX4_lineHolds, .selects RX4 yX4_lineHolds yX4_lineHolds] bs2)
set_option maxHeartbeats 4000000 in
set_option maxRecDepth 100000 in
theorem c_firstThatHoldsZ (l : Launch) (dC : Nat → ClassId) (dI : Nat → Nat → Nat) (kA : Nat → ClassId) (adK adV : Nat → Nat) (G : gT) (H0 : Heap) (nC nS : Int) (o0 : Nat) (p1 : Nat) (kn : Nat) (ln : Int32) (sf : Nat) (sto : Nat) (stp9 : Nat) (stk : Nat) (vK : Nat → Int32) (vF : Nat → Int32) (vT : Nat → Int32) (vS : Nat → Int32) (vQ : Nat → Int64) (fL : Nat → Int64) (A9 : zAl) (L9 : List Int) (hT : gH (dC, dI) kA (SHc nC nS) G H0) (hr_p1 : G p1 = some 56) (hr_o0 : G o0 = some 7) (hm_kn : el H0 o0 (dI 7 2) = some (.ref kn)) (hr_kn : G kn = some 42) (hm_ln : el H0 o0 (dI 7 11) = some (.int ln)) (hm_sf : el H0 o0 (dI 7 7) = some (.ref sf)) (hr_sf : G sf = some 47) (hm_sto : el H0 o0 (dI 7 8) = some (.ref sto)) (hr_sto : G sto = some 48) (hm_stp9 : el H0 o0 (dI 7 9) = some (.ref stp9)) (hr_stp9 : G stp9 = some 49) (hm_stk : el H0 o0 (dI 7 10) = some (.ref stk)) (hr_stk : G stk = some 50) (hq0 : 0 ≤ ln.toInt ∧ ln.toInt ≤ 20) (hrp : zRp A9 vK vF vT (tz vS) 400) (hzk : ∀ e ∈ A9, zok e.2) (hln : ((A9.length : Nat) : Int) = ln.toInt) (hfe : zfE L9 fL) (hc_vK : ct H0 kn 20 vK) (hc_vF : ct H0 sf 20 vF) (hc_vT : ct H0 sto 20 vT) (hc_vS : ct H0 stp9 400 vS) (hc_vQ : ctl H0 stk 20 vQ) (hc_fL : ctl H0 p1 10 fL) (hgC : 0 ≤ nC ∧ nC ≤ 40) (hgS : 0 ≤ nS ∧ nS ≤ 60) : Met l yX4_firstThatHolds w_c_firstThatHoldsZ ({ frames := 3, cells := 0, slots := 0, locals := 89 }) (va_Pc [.ref o0, .int 6, .ref p1] (fun U => U.heap = H0 ∧ va_K (dC, dI) vwCl (tyl kA) U ∧ EVC adK adV (gA G H0.size) U U.heap)) (va_Qi (fun (r : Int32) (u : Unit) => (-1 ≤ r.toInt ∧ r.toInt ≤ 19) ∧ ((0 ≤ r.toInt ∧ zOut L9 A9) ∨ (r.toInt = -1 ∧ ¬ zOut L9 A9))) (fun (_ : Unit) (t : State) => gH (dC, dI) kA (SHc nC nS) G t.heap ∧ gF (dC, dI) SKc G ([(50, 0)] : List (Nat × Nat)) H0 t.heap) (gA G H0.size)) 0 0 (gA G H0.size) := by
  refine Met.ofW (cc := cX4_firstThatHolds) (maxL := 4) (ret := (some .int)) (by decide) rfl ?_
  intro p e s m args below meth c s₁ B hml hv
  obtain ⟨rfl, hH0, hK, hE⟩ := hv
  have hx := B.exec
  have hb := B.bytes
  have hr := B.returns
  have hts := atoms_spec (ws := w_c_firstThatHoldsZ) B.pre
  have hown : s.vm.findClass RX4 = some m.cls := findClass_of_methodNamed B.named
  have hlocks := B.notSynchronized
  subst hH0
  generalize hAe : gA G s.heap.size = A at hE ⊢
  have hA : ∀ q : Nat, s.heap.size ≤ q → A q := fun q h => by rw [← hAe]; exact Or.inr h
  have hG := gA_of hAe
  have hS : va_S A s.heap s.heap [] := va_S.rf
  have hF : gF (dC, dI) SKc G ([(50, 0)] : List (Nat × Nat)) s.heap s.heap := gF.rf
  have hl := lv_entry ([.ref o0, .int 6, .ref p1]) (n := 4) (Nat.le_of_ble_eq_true rfl)
  rw [lg_entry_eq]
  generalize (lg_sl ([.ref o0, .int 6, .ref p1]) ++ List.replicate (4 - (lg_sl ([.ref o0, .int 6, .ref p1])).length) Slot.unset).toArray = ls at hl ⊢
  have hl : lv_has ls 4 [(0, .ref o0), (1, .int 6), (2, .ref p1)] := hl
  refine lv_iconst (v := 0) hx hb dX4_firstThatHolds_0 (by decide) ?_
  refine lv_istore_n (lv' := [(3, .int 0), (0, .ref o0), (1, .int 6), (2, .ref p1)]) hx hb dX4_firstThatHolds_1 rfl hl (by decide) rfl (fun ls hl => ?_)
  have key89 : ∀ (n89 i1 : Nat), i1 + n89 = 20 → 0 ≤ i1 → ((¬ zOl L9 A9 i1) ∧ (((i1 : Nat) : Int) ≤ ln.toInt)) → ∀ (H : Heap) (locs : List Loc), gH (dC, dI) kA (SHc nC nS) G H → gF (dC, dI) SKc G ([(50, 0)] : List (Nat × Nat)) s.heap H → va_S A s.heap H locs → ct H kn 20 vK → ct H sf 20 vF → ct H sto 20 vT → ct H stp9 400 vS → ctl H p1 10 fL → el H o0 (dI 7 2) = some (.ref kn) → el H o0 (dI 7 11) = some (.int ln) → el H o0 (dI 7 7) = some (.ref sf) → el H o0 (dI 7 8) = some (.ref sto) → el H o0 (dI 7 9) = some (.ref stp9) → el H o0 (dI 7 10) = some (.ref stk) → ∀ ls : Array Slot, lv_has ls 4 [(3, .int (nI i1)), (0, .ref o0), (1, .int 6), (2, .ref p1)] → W p l e (headSpec w_c_firstThatHoldsZ ({ frames := 3, cells := 0, slots := 0, locals := 89 })).room s m #[.ref o0, .int 6, .ref p1] below meth c H locs 0 0 (MQ below (va_Qi (fun (r : Int32) (u : Unit) => (-1 ≤ r.toInt ∧ r.toInt ≤ 19) ∧ ((0 ≤ r.toInt ∧ zOut L9 A9) ∨ (r.toInt = -1 ∧ ¬ zOut L9 A9))) (fun (_ : Unit) (t : State) => gH (dC, dI) kA (SHc nC nS) G t.heap ∧ gF (dC, dI) SKc G ([(50, 0)] : List (Nat × Nat)) s.heap t.heap) A) #[.ref o0, .int 6, .ref p1] s 0 0 A) (F0 m 2 ls []) := by
    intro n89
    induction n89 with
    | zero =>
      intro i1 hn89 hlo90 ⟨hj56, hj57⟩ H locs hT hF hS m45 m46 m47 m48 m49 m50 m51 m52 m53 m54 m55 ls hl
      obtain rfl : 20 = i1 := by omega
      refine lv_iload_n hx hb dX4_firstThatHolds_2 rfl (lv_at hl 0 rfl) ?_
      refine lv_aload_n hx hb dX4_firstThatHolds_3 rfl (lv_at hl 1 rfl) ?_
      refine tw_getM (v := .int ln) hx hb hts bF2_X4 hown hK hT hr_o0 shc_7 rfl 11 (by decide) (ht_at2 hts 0 rfl) (fun _ h9 => h9) m51 dX4_firstThatHolds_4 ?_
      refine lv_icmp_ge (tgt := 37) hx hb dX4_firstThatHolds_7 (by decide) (fun c91 => ?_) (fun c91 => (by exfalso; have q9 : ((20 : Nat) : Int) < ln.toInt := ti_nle c91 rfl (nI_toInt (by omega)); omega))
      have t92 : ln.toInt ≤ ((20 : Nat) : Int) := ti_le c91 rfl (nI_toInt (by omega))
      refine lv_iconst (v := (-1)) hx hb dX4_firstThatHolds_37 (by decide) ?_
      exact W.iret (v := (-1)) hx hb hr (fun t ht hW => ⟨⟨(-1), (), rfl, (by exact ⟨(rg_t (a := (-1)) (by decide) (by first | decide | omega) (by first | decide | omega)), (Or.inr ⟨by decide, by have e9 : 20 = A9.length := (by omega); have f9 := hj56; rw [e9] at f9; exact f9⟩)⟩), by (try dsimp only); rw [ht]; exact ⟨hT, hF⟩⟩, hS.F ht⟩) hS.2.2 dX4_firstThatHolds_38
    | succ n89 ih89 =>
      intro i1 hn89 hlo90 ⟨hj56, hj57⟩ H locs hT hF hS m45 m46 m47 m48 m49 m50 m51 m52 m53 m54 m55 ls hl
      have hlt92 : i1 < 20 := by omega
      refine lv_iload_n hx hb dX4_firstThatHolds_2 rfl (lv_at hl 0 rfl) ?_
      refine lv_aload_n hx hb dX4_firstThatHolds_3 rfl (lv_at hl 1 rfl) ?_
      refine tw_getM (v := .int ln) hx hb hts bF2_X4 hown hK hT hr_o0 shc_7 rfl 11 (by decide) (ht_at2 hts 0 rfl) (fun _ h9 => h9) m51 dX4_firstThatHolds_4 ?_
      refine lv_icmp_ge (tgt := 37) hx hb dX4_firstThatHolds_7 (by decide) (fun c93 => ?_) (fun c93 => ?_)
      · have t94 : ln.toInt ≤ ((i1 : Nat) : Int) := ti_le c93 rfl (nI_toInt (by omega))
        refine lv_iconst (v := (-1)) hx hb dX4_firstThatHolds_37 (by decide) ?_
        exact W.iret (v := (-1)) hx hb hr (fun t ht hW => ⟨⟨(-1), (), rfl, (by exact ⟨(rg_t (a := (-1)) (by decide) (by first | decide | omega) (by first | decide | omega)), (Or.inr ⟨by decide, by have e9 : i1 = A9.length := (by omega); have f9 := hj56; rw [e9] at f9; exact f9⟩)⟩), by (try dsimp only); rw [ht]; exact ⟨hT, hF⟩⟩, hS.F ht⟩) hS.2.2 dX4_firstThatHolds_38
      · have t95 : ((i1 : Nat) : Int) < ln.toInt := ti_nle c93 rfl (nI_toInt (by omega))
        refine lv_aload_n hx hb dX4_firstThatHolds_10 rfl (lv_at hl 1 rfl) ?_
        refine tw_getM (v := .ref kn) hx hb hts bF2_X4 hown hK hT hr_o0 shc_7 rfl 2 (by decide) (ht_at2 hts 1 rfl) (fun _ h9 => h9) m50 dX4_firstThatHolds_11 ?_
        refine lv_iload_n hx hb dX4_firstThatHolds_14 rfl (lv_at hl 0 rfl) ?_
        refine tw_iald (i := (nI i1)) hx hb hK hT hr_kn shc_42 rfl (vp_in_nI (by omega) (by decide)) dX4_firstThatHolds_15 (fun v9 m96 h9 => ?_)
        obtain ⟨x97, rfl, gx97, kx97⟩ := h9
        have cx97 := m45.at m96 (by have q9 := tn_of (show (nI i1).toInt = ((i1 : Nat) : Int) from (nI_toInt (by omega))) (by omega); omega)
        refine lv_iload_n hx hb dX4_firstThatHolds_16 rfl (lv_at hl 2 rfl) ?_
        have t98 : -2147483648 ≤ x97.toInt ∧ x97.toInt ≤ 2147483647 := ti_all x97
        refine lv_icmp_ne (tgt := 31) hx hb dX4_firstThatHolds_17 (by decide) (fun c99 => ?_) (fun c99 => ?_)
        · have t100 : x97.toInt ≠ 6 := ti_ne c99 rfl (by decide)
          refine lv_iinc (v := nI (i1 + 1)) (lv' := [(3, .int (nI (i1 + 1))), (0, .ref o0), (1, .int 6), (2, .ref p1)]) hx hb dX4_firstThatHolds_31 hl (k := 0) rfl (nI_add i1 1) (by decide) rfl (fun ls hl => ?_)
          refine lv_goto (tgt := 2) hx hb dX4_firstThatHolds_34 (by decide) ?_
          exact ih89 (i1 + 1) (by omega) (by omega) ⟨(by have q6 : (6 : Int32).toInt = 6 := (by decide); have v9 : (vK i1).toInt = x97.toInt := (by rw [cx97, tn_nI (by omega)]); exact zOl_k hrp hfe hj56 (Or.inl (by omega))), (by omega)⟩ _ _ hT hF hS m45 m46 m47 m48 m49 m50 m51 m52 m53 m54 m55 ls (lv_sub hl [0, 1, 2, 3] rfl)
        · have t101 : x97.toInt = 6 := ti_eq c99 rfl (by decide)
          refine lv_aload_n hx hb dX4_firstThatHolds_20 rfl (lv_at hl 1 rfl) ?_
          refine lv_iload_n hx hb dX4_firstThatHolds_21 rfl (lv_at hl 0 rfl) ?_
          refine lv_aload_n hx hb dX4_firstThatHolds_22 rfl (lv_at hl 3 rfl) ?_
          obtain ⟨V102, m103⟩ := ctl_of hT hr_stk shc_50
          have hFc := gA_free hG hA hS
          refine va_calli (va_runV (As := [.int (nI i1), .ref p1]) (rest := []) ⟨hx, hb, hml, hown, hts⟩ (c_lineHoldsZ l dC dI kA adK adV G H nC nS o0 (nI i1) p1 sf sto stp9 stk vF vT vS V102 fL hT hr_p1 hr_o0 m52 hr_sf m53 hr_sto m54 hr_stp9 m55 hr_stk (rg_t (a := ((i1 : Nat) : Int)) (nI_toInt (by omega)) (by omega) (by omega)) (zok_at hrp hzk (n := (nI i1).toNatClampNeg) (by have := tn_of (show (nI i1).toInt = ((i1 : Nat) : Int) from (nI_toInt (by omega))) (by omega); omega) (by rw [← cx97]; have q6 : (6 : Int32).toInt = 6 := (by decide); omega)) m46 m47 m48 m103 m49 (by omega) (by omega)) (cwV 2 hts (goodIn_app (goodIn_r _ [16, 17, 18, 15] rfl (by decide +kernel)) (goodIn_ca (goodIn_r _ [3, 4, 5, 6, 7, 8, 9, 10, 11, 12, 13, 14, 15] rfl (by decide +kernel)) (bs2_in _ _))) rfl rfl rfl (by decide +kernel) ⟨(Nat.le_of_ble_eq_true rfl), (Nat.le_of_ble_eq_true rfl)⟩) ⟨fun a U g mk q => by obtain ⟨q0, q1, qK, qE⟩ := q; exact ⟨q0, q1, va_K.moved (u := U) (U := U.calling g mk a) (Vm.Alike.refl U.vm) qK, EVC.blind g mk a qE⟩, gH_rc hK hT hr_o0 shc_7 rfl, fun U hU hW => ⟨rfl, hU, va_K.moved hW.alike hK, hE.call hS hFc hU hW⟩⟩ rfl rfl hl.1 rfl (lv_room (Nat.le_of_ble_eq_true rfl)) dX4_firstThatHolds_23 ⟨(Nat.le_of_ble_eq_true rfl), (Nat.le_of_ble_eq_true rfl)⟩) hS (fun q _ h => hFc q h) hFc (fun r104 u t H locs ht hvm hw105 hB _ _ hS => ?_)
          obtain ⟨hT, hF1⟩ := hB
          rw [ht] at hT hF1
          have m106 := m45.kept (hF1.arr hr_kn skc_42 (by decide))
          have m107 := m46.kept (hF1.arr hr_sf skc_47 (by decide))
          have m108 := m47.kept (hF1.arr hr_sto skc_48 (by decide))
          have m109 := m48.kept (hF1.arr hr_stp9 skc_49 (by decide))
          have m110 := m49.kept (hF1.arr hr_p1 skc_56 (by decide))
          have m111 := (hF1.fld hr_o0 skc_7 (k := 2) (by decide) (by decide)).trans m50
          have m112 := (hF1.fld hr_o0 skc_7 (k := 11) (by decide) (by decide)).trans m51
          have m113 := (hF1.fld hr_o0 skc_7 (k := 7) (by decide) (by decide)).trans m52
          have m114 := (hF1.fld hr_o0 skc_7 (k := 8) (by decide) (by decide)).trans m53
          have m115 := (hF1.fld hr_o0 skc_7 (k := 9) (by decide) (by decide)).trans m54
          have m116 := (hF1.fld hr_o0 skc_7 (k := 10) (by decide) (by decide)).trans m55
          have hF := hF.more hF1 (by decide)
          try dsimp only at hw105
          obtain ⟨h119, hf120⟩ := hw105
          refine lv_if_eq (tgt := 31) hx hb dX4_firstThatHolds_26 (by decide) (fun c121 => ?_) (fun c121 => ?_)
          · have t122 : r104.toInt = 0 := ti_eq c121 rfl (by decide)
            refine lv_iinc (v := nI (i1 + 1)) (lv' := [(3, .int (nI (i1 + 1))), (0, .ref o0), (1, .int 6), (2, .ref p1)]) hx hb dX4_firstThatHolds_31 hl (k := 0) rfl (nI_add i1 1) (by decide) rfl (fun ls hl => ?_)
            refine lv_goto (tgt := 2) hx hb dX4_firstThatHolds_34 (by decide) ?_
            exact ih89 (i1 + 1) (by omega) (by omega) ⟨(by have h9 := (hf120.resolve_left (fun h8 => by have := h8.1; omega)).2; rw [tn_nI (by omega)] at h9; exact zOl_k hrp hfe hj56 (Or.inr h9)), (by omega)⟩ _ _ hT hF hS m106 m107 m108 m109 m110 m111 m112 m113 m114 m115 m116 ls (lv_sub hl [0, 1, 2, 3] rfl)
          · have t123 : r104.toInt ≠ 0 := ti_ne c121 rfl (by decide)
            refine lv_iload_n hx hb dX4_firstThatHolds_29 rfl (lv_at hl 0 rfl) ?_
            exact W.iret (v := nI i1) hx hb hr (fun t ht hW => ⟨⟨nI i1, (), rfl, (by exact ⟨(rg_t (a := ((i1 : Nat) : Int)) (nI_toInt (by omega)) (by omega) (by omega)), (Or.inl ⟨by omega, by have q6 : (6 : Int32).toInt = 6 := (by decide); have v9 : (vK i1).toInt = x97.toInt := (by rw [cx97, tn_nI (by omega)]); have h9 := (hf120.resolve_right (fun h8 => by have := h8.1; omega)).2; rw [tn_nI (by omega)] at h9; obtain ⟨l9, l1, l2⟩ := zOl_y hrp hfe (n := i1) (by omega) (by omega) h9; exact ⟨l9, by omega, l2⟩⟩)⟩), by (try dsimp only); rw [ht]; exact ⟨hT, hF⟩⟩, hS.F ht⟩) hS.2.2 dX4_firstThatHolds_30
  exact key89 (20 - 0) 0 (by omega) (Nat.le_refl _) ⟨zOl_0, (by omega)⟩ _ _ hT hF hS hc_vK hc_vF hc_vT hc_vS hc_fL hm_kn hm_ln hm_sf hm_sto hm_stp9 hm_stk ls (lv_sub hl [0, 1, 2, 3] rfl)
def w_c_isRuledZ : List Cond := .code yX0_isRuled cX0_isRuled 2 (some .boolean) :: (HAppend.hAppend (α := List Cond) (β := List Cond) (γ := List Cond) [.fieldLink RX0 41 "SeaLand$Board" "force" "LSeaLand$Law;", .fieldLink RX0 33 "SeaLand$Board" "facts" "[J", .code yX4_firstThatHolds cX4_firstThatHolds 4 (some .int), .fieldLink RX4 60 "SeaLand$Law" "lines" "I", .fieldLink RX4 18 "SeaLand$Law" "kinds" "[I", .code yX4_lineHolds cX4_lineHolds 6 (some .boolean), .fieldLink RX4 33 "SeaLand$Law" "stepFrom" "[I", .fieldLink RX4 36 "SeaLand$Law" "stepTo" "[I", .fieldLink RX4 39 "SeaLand$Law" "steps" "[I", .fieldLink RX4 42 "SeaLand$Law" "stack" "[J", .code yX4_joined cX4_joined 5 (some .long), .methodLink RX4 199 Lib.MathLoose.max_long.x, .static Lib.MathLoose.max_long.x, .initialized "java/lang/Math", .code Lib.MathLoose.max_long.x Lib.MathLoose.max_long.code 4 (some .long), .methodLink RX4 195 yX4_joined, .static yX4_joined, .initialized RX4, .methodLink RX4 203 yX4_lineHolds, .instanceMethod yX4_lineHolds, .selects RX4 yX4_lineHolds yX4_lineHolds, .methodLink RX0 134 yX4_firstThatHolds, .instanceMethod yX4_firstThatHolds, .selects RX4 yX4_firstThatHolds yX4_firstThatHolds] bs2)
set_option maxHeartbeats 4000000 in
set_option maxRecDepth 100000 in
theorem c_isRuledZ (l : Launch) (dC : Nat → ClassId) (dI : Nat → Nat → Nat) (kA : Nat → ClassId) (adK adV : Nat → Nat) (G : gT) (H0 : Heap) (nC nS : Int) (o0 : Nat) (lw : Nat) (kn : Nat) (ln : Int32) (sf : Nat) (sto : Nat) (stp9 : Nat) (stk : Nat) (fa9 : Nat) (vK : Nat → Int32) (vF : Nat → Int32) (vT : Nat → Int32) (vS : Nat → Int32) (vQ : Nat → Int64) (fL : Nat → Int64) (A9 : zAl) (L9 : List Int) (hT : gH (dC, dI) kA (SHc nC nS) G H0) (hr_o0 : G o0 = some 3) (hm_lw : el H0 o0 (dI 3 7) = some (.ref lw)) (hr_lw : G lw = some 7) (hm_kn : el H0 lw (dI 7 2) = some (.ref kn)) (hr_kn : G kn = some 42) (hm_ln : el H0 lw (dI 7 11) = some (.int ln)) (hm_sf : el H0 lw (dI 7 7) = some (.ref sf)) (hr_sf : G sf = some 47) (hm_sto : el H0 lw (dI 7 8) = some (.ref sto)) (hr_sto : G sto = some 48) (hm_stp9 : el H0 lw (dI 7 9) = some (.ref stp9)) (hr_stp9 : G stp9 = some 49) (hm_stk : el H0 lw (dI 7 10) = some (.ref stk)) (hr_stk : G stk = some 50) (hm_fa9 : el H0 o0 (dI 3 5) = some (.ref fa9)) (hr_fa9 : G fa9 = some 56) (hq0 : 0 ≤ ln.toInt ∧ ln.toInt ≤ 20) (hrp : zRp A9 vK vF vT (tz vS) 400) (hzk : ∀ e ∈ A9, zok e.2) (hln : ((A9.length : Nat) : Int) = ln.toInt) (hfe : zfE L9 fL) (hc_vK : ct H0 kn 20 vK) (hc_vF : ct H0 sf 20 vF) (hc_vT : ct H0 sto 20 vT) (hc_vS : ct H0 stp9 400 vS) (hc_vQ : ctl H0 stk 20 vQ) (hc_fL : ctl H0 fa9 10 fL) (hgC : 0 ≤ nC ∧ nC ≤ 40) (hgS : 0 ≤ nS ∧ nS ≤ 60) : Met l yX0_isRuled w_c_isRuledZ ({ frames := 4, cells := 0, slots := 0, locals := 112 }) (va_Pc [.ref o0, .int 6] (fun U => U.heap = H0 ∧ va_K (dC, dI) vwCl (tyl kA) U ∧ EVC adK adV (gA G H0.size) U U.heap)) (va_Qi (fun (r : Int32) (u : Unit) => (0 ≤ r.toInt ∧ r.toInt ≤ 1) ∧ ((r.toInt = 1 ∧ zOut L9 A9) ∨ (r.toInt = 0 ∧ ¬ zOut L9 A9))) (fun (_ : Unit) (t : State) => gH (dC, dI) kA (SHc nC nS) G t.heap ∧ gF (dC, dI) SKc G ([(50, 0)] : List (Nat × Nat)) H0 t.heap) (gA G H0.size)) 0 0 (gA G H0.size) := by
  refine Met.ofW (cc := cX0_isRuled) (maxL := 2) (ret := (some .boolean)) (by decide) rfl ?_
  intro p e s m args below meth c s₁ B hml hv
  obtain ⟨rfl, hH0, hK, hE⟩ := hv
  have hx := B.exec
  have hb := B.bytes
  have hr := B.returns
  have hts := atoms_spec (ws := w_c_isRuledZ) B.pre
  have hown : s.vm.findClass RX0 = some m.cls := findClass_of_methodNamed B.named
  have hlocks := B.notSynchronized
  subst hH0
  generalize hAe : gA G s.heap.size = A at hE ⊢
  have hA : ∀ q : Nat, s.heap.size ≤ q → A q := fun q h => by rw [← hAe]; exact Or.inr h
  have hG := gA_of hAe
  have hS : va_S A s.heap s.heap [] := va_S.rf
  have hF : gF (dC, dI) SKc G ([(50, 0)] : List (Nat × Nat)) s.heap s.heap := gF.rf
  have hl := lv_entry ([.ref o0, .int 6]) (n := 2) (Nat.le_of_ble_eq_true rfl)
  rw [lg_entry_eq]
  generalize (lg_sl ([.ref o0, .int 6]) ++ List.replicate (2 - (lg_sl ([.ref o0, .int 6])).length) Slot.unset).toArray = ls at hl ⊢
  have hl : lv_has ls 2 [(0, .ref o0), (1, .int 6)] := hl
  refine lv_aload_n hx hb dX0_isRuled_0 rfl (lv_at hl 0 rfl) ?_
  refine tw_getM (v := .ref lw) hx hb hts bF2_X0 hown hK hT hr_o0 shc_3 rfl 7 (by decide) (ht_at2 hts 0 rfl) (fun _ h9 => h9) hm_lw dX0_isRuled_1 ?_
  refine lv_iload_n hx hb dX0_isRuled_4 rfl (lv_at hl 1 rfl) ?_
  refine lv_aload_n hx hb dX0_isRuled_5 rfl (lv_at hl 0 rfl) ?_
  refine tw_getM (v := .ref fa9) hx hb hts bF2_X0 hown hK hT hr_o0 shc_3 rfl 5 (by decide) (ht_at2 hts 1 rfl) (fun _ h9 => h9) hm_fa9 dX0_isRuled_6 ?_
  have hFc := gA_free hG hA hS
  refine va_calli (va_runV (As := [.int 6, .ref fa9]) (rest := []) ⟨hx, hb, hml, hown, hts⟩ (c_firstThatHoldsZ l dC dI kA adK adV G s.heap nC nS lw fa9 kn ln sf sto stp9 stk vK vF vT vS vQ fL A9 L9 hT hr_fa9 hr_lw hm_kn hr_kn hm_ln hm_sf hr_sf hm_sto hr_sto hm_stp9 hr_stp9 hm_stk hr_stk (by have q8 := ti_all ln; omega) hrp hzk hln hfe hc_vK hc_vF hc_vT hc_vS hc_vQ hc_fL (by omega) (by omega)) (cwV 2 hts (goodIn_app (goodIn_r _ [22, 23, 24, 18] rfl (by decide +kernel)) (goodIn_ca (goodIn_r _ [3, 4, 5, 6, 7, 8, 9, 10, 11, 12, 13, 14, 15, 16, 17, 18, 19, 20, 21] rfl (by decide +kernel)) (bs2_in _ _))) rfl rfl rfl (by decide +kernel) ⟨(Nat.le_of_ble_eq_true rfl), (Nat.le_of_ble_eq_true rfl)⟩) ⟨fun a U g mk q => by obtain ⟨q0, q1, qK, qE⟩ := q; exact ⟨q0, q1, va_K.moved (u := U) (U := U.calling g mk a) (Vm.Alike.refl U.vm) qK, EVC.blind g mk a qE⟩, gH_rc hK hT hr_lw shc_7 rfl, fun U hU hW => ⟨rfl, hU, va_K.moved hW.alike hK, hE.call hS hFc hU hW⟩⟩ rfl rfl hl.1 rfl (lv_room (Nat.le_of_ble_eq_true rfl)) dX0_isRuled_9 ⟨(Nat.le_of_ble_eq_true rfl), (Nat.le_of_ble_eq_true rfl)⟩) hS (fun q _ h => hFc q h) hFc (fun r1 u t H locs ht hvm hw2 hB _ _ hS => ?_)
  obtain ⟨hT, hF1⟩ := hB
  rw [ht] at hT hF1
  have hF := hF.more hF1 (by decide)
  try dsimp only at hw2
  obtain ⟨h17, hf18⟩ := hw2
  refine lv_iconst (v := (-1)) hx hb dX0_isRuled_12 (by decide) ?_
  refine lv_icmp_eq (tgt := 20) hx hb dX0_isRuled_13 (by decide) (fun c19 => ?_) (fun c19 => ?_)
  · have t20 : r1.toInt = (-1) := ti_eq c19 rfl (by decide)
    refine lv_iconst (v := 0) hx hb dX0_isRuled_20 (by decide) ?_
    exact W.zret (v := 0) hx hb hr (by decide) (fun t ht hW => ⟨⟨0, (), rfl, (by exact ⟨(rg_t (a := 0) (by decide) (by first | decide | omega) (by first | decide | omega)), (Or.inr ⟨by decide, (hf18.resolve_left (fun h8 => by have := h8.1; omega)).2⟩)⟩), by (try dsimp only); rw [ht]; exact ⟨hT, hF⟩⟩, hS.F ht⟩) hS.2.2 dX0_isRuled_21
  · have t21 : r1.toInt ≠ (-1) := ti_ne c19 rfl (by decide)
    refine lv_iconst (v := 1) hx hb dX0_isRuled_16 (by decide) ?_
    refine lv_goto (tgt := 21) hx hb dX0_isRuled_17 (by decide) ?_
    exact W.zret (v := 1) hx hb hr (by decide) (fun t ht hW => ⟨⟨1, (), rfl, (by exact ⟨(rg_t (a := 1) (by decide) (by first | decide | omega) (by first | decide | omega)), (Or.inl ⟨by decide, (hf18.resolve_right (fun h8 => by have := h8.1; omega)).2⟩)⟩), by (try dsimp only); rw [ht]; exact ⟨hT, hF⟩⟩, hS.F ht⟩) hS.2.2 dX0_isRuled_21
def w_c_sumThatHoldsN : List Cond := .code yX4_sumThatHolds cX4_sumThatHolds 6 (some .long) :: (HAppend.hAppend (α := List Cond) (β := List Cond) (γ := List Cond) [.fieldLink RX4 60 "SeaLand$Law" "lines" "I", .fieldLink RX4 18 "SeaLand$Law" "kinds" "[I", .code yX4_lineHolds cX4_lineHolds 6 (some .boolean), .fieldLink RX4 33 "SeaLand$Law" "stepFrom" "[I", .fieldLink RX4 36 "SeaLand$Law" "stepTo" "[I", .fieldLink RX4 39 "SeaLand$Law" "steps" "[I", .fieldLink RX4 42 "SeaLand$Law" "stack" "[J", .code yX4_joined cX4_joined 5 (some .long), .methodLink RX4 199 Lib.MathLoose.max_long.x, .static Lib.MathLoose.max_long.x, .initialized "java/lang/Math", .code Lib.MathLoose.max_long.x Lib.MathLoose.max_long.code 4 (some .long), .methodLink RX4 195 yX4_joined, .static yX4_joined, .initialized RX4, .methodLink RX4 203 yX4_lineHolds, .instanceMethod yX4_lineHolds, .selects RX4 yX4_lineHolds yX4_lineHolds, .fieldLink RX4 21 "SeaLand$Law" "firsts" "[I"] bs2)
set_option maxHeartbeats 4000000 in
set_option maxRecDepth 100000 in
theorem c_sumThatHoldsN (l : Launch) (dC : Nat → ClassId) (dI : Nat → Nat → Nat) (kA : Nat → ClassId) (adK adV : Nat → Nat) (G : gT) (H0 : Heap) (nC nS : Int) (o0 : Nat) (p0 : Int32) (p1 : Nat)  (hT : gH (dC, dI) kA (SHc nC nS) G H0) (hr_p1 : G p1 = some 56) (hr_o0 : G o0 = some 7) (hgC : 0 ≤ nC ∧ nC ≤ 40) (hgS : 0 ≤ nS ∧ nS ≤ 60) : Met l yX4_sumThatHolds w_c_sumThatHoldsN ({ frames := 3, cells := 0, slots := 0, locals := 89 }) (va_Pc [.ref o0, .int p0, .ref p1] (fun U => U.heap = H0 ∧ va_K (dC, dI) vwCl (tyl kA) U ∧ EVC adK adV (gA G H0.size) U U.heap)) (va_Ql (fun (r : Int64) (u : Unit) => (0 ≤ r.toInt ∧ r.toInt ≤ 1999980)) (fun (_ : Unit) (t : State) => gH (dC, dI) kA (SHc nC nS) G t.heap ∧ gF (dC, dI) SKc G ([(50, 0)] : List (Nat × Nat)) H0 t.heap) (gA G H0.size)) 0 0 (gA G H0.size) := by
  refine Met.ofW (cc := cX4_sumThatHolds) (maxL := 6) (ret := (some .long)) (by decide) rfl ?_
  intro p e s m args below meth c s₁ B hml hv
  obtain ⟨rfl, hH0, hK, hE⟩ := hv
  have hx := B.exec
  have hb := B.bytes
  have hr := B.returns
  have hts := atoms_spec (ws := w_c_sumThatHoldsN) B.pre
  have hown : s.vm.findClass RX4 = some m.cls := findClass_of_methodNamed B.named
  have hlocks := B.notSynchronized
  subst hH0
  generalize hAe : gA G s.heap.size = A at hE ⊢
  have hA : ∀ q : Nat, s.heap.size ≤ q → A q := fun q h => by rw [← hAe]; exact Or.inr h
  have hG := gA_of hAe
  have hS : va_S A s.heap s.heap [] := va_S.rf
  have hF : gF (dC, dI) SKc G ([(50, 0)] : List (Nat × Nat)) s.heap s.heap := gF.rf
  have hl := lv_entry ([.ref o0, .int p0, .ref p1]) (n := 6) (Nat.le_of_ble_eq_true rfl)
  rw [lg_entry_eq]
  generalize (lg_sl ([.ref o0, .int p0, .ref p1]) ++ List.replicate (6 - (lg_sl ([.ref o0, .int p0, .ref p1])).length) Slot.unset).toArray = ls at hl ⊢
  have hl : lv_has ls 6 [(0, .ref o0), (1, .int p0), (2, .ref p1)] := hl
  refine lv_lconst (v := 0) hx hb dX4_sumThatHolds_0 (by decide) ?_
  refine lv_lstore_n (lv' := [(3, .long 0), (0, .ref o0), (1, .int p0), (2, .ref p1)]) hx hb dX4_sumThatHolds_1 rfl hl (by decide) rfl (fun ls hl => ?_)
  refine lv_iconst (v := 0) hx hb dX4_sumThatHolds_2 (by decide) ?_
  refine lv_istore (lv' := [(5, .int 0), (3, .long 0), (0, .ref o0), (1, .int p0), (2, .ref p1)]) hx hb dX4_sumThatHolds_3 hl (by decide) rfl (fun ls hl => ?_)
  have key66 : ∀ (n66 i1 : Nat), i1 + n66 = 20 → 0 ≤ i1 → ∀ (y34 : Int64), ((0 ≤ y34.toInt ∧ y34.toInt ≤ 99999 * ((i1 : Nat) : Int))) → ∀ (H : Heap) (locs : List Loc), gH (dC, dI) kA (SHc nC nS) G H → gF (dC, dI) SKc G ([(50, 0)] : List (Nat × Nat)) s.heap H → va_S A s.heap H locs → ∀ ls : Array Slot, lv_has ls 6 [(5, .int (nI i1)), (3, .long y34), (0, .ref o0), (1, .int p0), (2, .ref p1)] → W p l e (headSpec w_c_sumThatHoldsN ({ frames := 3, cells := 0, slots := 0, locals := 89 })).room s m #[.ref o0, .int p0, .ref p1] below meth c H locs 0 0 (MQ below (va_Ql (fun (r : Int64) (u : Unit) => (0 ≤ r.toInt ∧ r.toInt ≤ 1999980)) (fun (_ : Unit) (t : State) => gH (dC, dI) kA (SHc nC nS) G t.heap ∧ gF (dC, dI) SKc G ([(50, 0)] : List (Nat × Nat)) s.heap t.heap) A) #[.ref o0, .int p0, .ref p1] s 0 0 A) (F0 m 5 ls []) := by
    intro n66
    induction n66 with
    | zero =>
      intro i1 hn66 hlo67 y34 hj35 H locs hT hF hS  ls hl
      obtain rfl : 20 = i1 := by omega
      refine lv_iload hx hb dX4_sumThatHolds_5 (lv_at hl 0 rfl) ?_
      refine lv_aload_n hx hb dX4_sumThatHolds_7 rfl (lv_at hl 2 rfl) ?_
      refine tw_get hx hb hts bF2_X4 hown hK hT hr_o0 shc_7 rfl 11 (by decide) (ht_at2 hts 0 rfl) (fun _ h9 => h9) dX4_sumThatHolds_8 (fun v9 m68 h9 => ?_)
      obtain ⟨x69, rfl, gx69, kx69⟩ := h9 _ rfl
      refine lv_icmp_ge (tgt := 52) hx hb dX4_sumThatHolds_11 (by decide) (fun c70 => ?_) (fun c70 => (by exfalso; have q9 : ((20 : Nat) : Int) < x69.toInt := ti_nle c70 rfl (nI_toInt (by omega)); omega))
      have t71 : x69.toInt ≤ ((20 : Nat) : Int) := ti_le c70 rfl (nI_toInt (by omega))
      refine lv_lload_n hx hb dX4_sumThatHolds_52 rfl (lv_at hl 1 rfl) ?_
      exact W.lret (v := y34) hx hb hr (fun t ht hW => ⟨⟨y34, (), rfl, (by exact (by exact ⟨by omega, by omega⟩)), by (try dsimp only); rw [ht]; exact ⟨hT, hF⟩⟩, hS.F ht⟩) hS.2.2 dX4_sumThatHolds_53
    | succ n66 ih66 =>
      intro i1 hn66 hlo67 y34 hj35 H locs hT hF hS  ls hl
      have hlt71 : i1 < 20 := by omega
      refine lv_iload hx hb dX4_sumThatHolds_5 (lv_at hl 0 rfl) ?_
      refine lv_aload_n hx hb dX4_sumThatHolds_7 rfl (lv_at hl 2 rfl) ?_
      refine tw_get hx hb hts bF2_X4 hown hK hT hr_o0 shc_7 rfl 11 (by decide) (ht_at2 hts 0 rfl) (fun _ h9 => h9) dX4_sumThatHolds_8 (fun v9 m72 h9 => ?_)
      obtain ⟨x73, rfl, gx73, kx73⟩ := h9 _ rfl
      refine lv_icmp_ge (tgt := 52) hx hb dX4_sumThatHolds_11 (by decide) (fun c74 => ?_) (fun c74 => ?_)
      · have t75 : x73.toInt ≤ ((i1 : Nat) : Int) := ti_le c74 rfl (nI_toInt (by omega))
        refine lv_lload_n hx hb dX4_sumThatHolds_52 rfl (lv_at hl 1 rfl) ?_
        exact W.lret (v := y34) hx hb hr (fun t ht hW => ⟨⟨y34, (), rfl, (by exact (by exact ⟨by omega, by omega⟩)), by (try dsimp only); rw [ht]; exact ⟨hT, hF⟩⟩, hS.F ht⟩) hS.2.2 dX4_sumThatHolds_53
      · have t76 : ((i1 : Nat) : Int) < x73.toInt := ti_nle c74 rfl (nI_toInt (by omega))
        refine lv_aload_n hx hb dX4_sumThatHolds_14 rfl (lv_at hl 2 rfl) ?_
        refine tw_get hx hb hts bF2_X4 hown hK hT hr_o0 shc_7 rfl 2 (by decide) (ht_at2 hts 1 rfl) (fun _ h9 => h9) dX4_sumThatHolds_15 (fun v9 m77 h9 => ?_)
        obtain ⟨b78, rfl, hg79⟩ := h9 _ rfl
        refine lv_iload hx hb dX4_sumThatHolds_18 (lv_at hl 0 rfl) ?_
        refine tw_iald (i := (nI i1)) hx hb hK hT hg79 shc_42 rfl (vp_in_nI (by omega) (by decide)) dX4_sumThatHolds_20 (fun v9 m80 h9 => ?_)
        obtain ⟨x81, rfl, gx81, kx81⟩ := h9
        refine lv_iload_n hx hb dX4_sumThatHolds_21 rfl (lv_at hl 3 rfl) ?_
        have t82 : -2147483648 ≤ x81.toInt ∧ x81.toInt ≤ 2147483647 := ti_all x81
        have t83 : -2147483648 ≤ p0.toInt ∧ p0.toInt ≤ 2147483647 := ti_all p0
        refine lv_icmp_ne (tgt := 46) hx hb dX4_sumThatHolds_22 (by decide) (fun c84 => ?_) (fun c84 => ?_)
        · have t85 : x81.toInt ≠ p0.toInt := ti_ne c84 rfl rfl
          refine lv_iinc (v := nI (i1 + 1)) (lv' := [(5, .int (nI (i1 + 1))), (3, .long y34), (0, .ref o0), (1, .int p0), (2, .ref p1)]) hx hb dX4_sumThatHolds_46 hl (k := 0) rfl (nI_add i1 1) (by decide) rfl (fun ls hl => ?_)
          refine lv_goto (tgt := 5) hx hb dX4_sumThatHolds_49 (by decide) ?_
          exact ih66 (i1 + 1) (by omega) (by omega) y34 (by omega) _ _ hT hF hS ls (lv_sub hl [0, 1, 2, 3, 4] rfl)
        · have t86 : x81.toInt = p0.toInt := ti_eq c84 rfl rfl
          refine lv_aload_n hx hb dX4_sumThatHolds_25 rfl (lv_at hl 2 rfl) ?_
          refine lv_iload hx hb dX4_sumThatHolds_26 (lv_at hl 0 rfl) ?_
          refine lv_aload_n hx hb dX4_sumThatHolds_28 rfl (lv_at hl 4 rfl) ?_
          have hFc := gA_free hG hA hS
          refine va_calli (va_runV (As := [.int (nI i1), .ref p1]) (rest := []) ⟨hx, hb, hml, hown, hts⟩ (c_lineHolds l dC dI kA adK adV G H nC nS o0 (nI i1) p1 hT hr_p1 hr_o0 (rg_t (a := ((i1 : Nat) : Int)) (nI_toInt (by omega)) (by omega) (by omega)) (by omega) (by omega)) (cwV 2 hts (goodIn_app (goodIn_r _ [16, 17, 18, 15] rfl (by decide +kernel)) (goodIn_ca (goodIn_r _ [3, 4, 5, 6, 7, 8, 9, 10, 11, 12, 13, 14, 15] rfl (by decide +kernel)) (bs2_in _ _))) rfl rfl rfl (by decide +kernel) ⟨(Nat.le_of_ble_eq_true rfl), (Nat.le_of_ble_eq_true rfl)⟩) ⟨fun a U g mk q => by obtain ⟨q0, q1, qK, qE⟩ := q; exact ⟨q0, q1, va_K.moved (u := U) (U := U.calling g mk a) (Vm.Alike.refl U.vm) qK, EVC.blind g mk a qE⟩, gH_rc hK hT hr_o0 shc_7 rfl, fun U hU hW => ⟨rfl, hU, va_K.moved hW.alike hK, hE.call hS hFc hU hW⟩⟩ rfl rfl hl.1 rfl (lv_room (Nat.le_of_ble_eq_true rfl)) dX4_sumThatHolds_29 ⟨(Nat.le_of_ble_eq_true rfl), (Nat.le_of_ble_eq_true rfl)⟩) hS (fun q _ h => hFc q h) hFc (fun r87 u t H locs ht hvm hw88 hB _ _ hS => ?_)
          obtain ⟨hT, hF1⟩ := hB
          rw [ht] at hT hF1
          have hF := hF.more hF1 (by decide)
          try dsimp only at hw88
          have h92 := hw88
          refine lv_if_eq (tgt := 46) hx hb dX4_sumThatHolds_32 (by decide) (fun c93 => ?_) (fun c93 => ?_)
          · have t94 : r87.toInt = 0 := ti_eq c93 rfl (by decide)
            refine lv_iinc (v := nI (i1 + 1)) (lv' := [(5, .int (nI (i1 + 1))), (3, .long y34), (0, .ref o0), (1, .int p0), (2, .ref p1)]) hx hb dX4_sumThatHolds_46 hl (k := 0) rfl (nI_add i1 1) (by decide) rfl (fun ls hl => ?_)
            refine lv_goto (tgt := 5) hx hb dX4_sumThatHolds_49 (by decide) ?_
            exact ih66 (i1 + 1) (by omega) (by omega) y34 (by omega) _ _ hT hF hS ls (lv_sub hl [0, 1, 2, 3, 4] rfl)
          · have t95 : r87.toInt ≠ 0 := ti_ne c93 rfl (by decide)
            refine lv_lload_n hx hb dX4_sumThatHolds_35 rfl (lv_at hl 1 rfl) ?_
            refine lv_aload_n hx hb dX4_sumThatHolds_36 rfl (lv_at hl 2 rfl) ?_
            refine tw_get hx hb hts bF2_X4 hown hK hT hr_o0 shc_7 rfl 3 (by decide) (ht_at2 hts 18 rfl) (fun _ h9 => h9) dX4_sumThatHolds_37 (fun v9 m96 h9 => ?_)
            obtain ⟨b97, rfl, hg98⟩ := h9 _ rfl
            refine lv_iload hx hb dX4_sumThatHolds_40 (lv_at hl 0 rfl) ?_
            refine tw_iald (i := (nI i1)) hx hb hK hT hg98 shc_43 rfl (vp_in_nI (by omega) (by decide)) dX4_sumThatHolds_42 (fun v9 m99 h9 => ?_)
            obtain ⟨x100, rfl, gx100, kx100⟩ := h9
            refine lv_i2l (v := x100.toInt64) hx hb dX4_sumThatHolds_43 rfl ?_
            refine lv_ladd hx hb dX4_sumThatHolds_44 ?_
            refine lv_topl (fun y101 ey101 => ?_)
            have t102 : y101.toInt = y34.toInt + x100.toInt := tl_a ey101 rfl ((Int32.toInt_toInt64 _).trans rfl) (by omega) (by omega)
            refine lv_lstore_n (lv' := [(3, .long y101), (5, .int (nI i1)), (0, .ref o0), (1, .int p0), (2, .ref p1)]) hx hb dX4_sumThatHolds_45 rfl hl (by decide) rfl (fun ls hl => ?_)
            refine lv_iinc (v := nI (i1 + 1)) (lv' := [(5, .int (nI (i1 + 1))), (3, .long y101), (0, .ref o0), (1, .int p0), (2, .ref p1)]) hx hb dX4_sumThatHolds_46 hl (k := 1) rfl (nI_add i1 1) (by decide) rfl (fun ls hl => ?_)
            refine lv_goto (tgt := 5) hx hb dX4_sumThatHolds_49 (by decide) ?_
            exact ih66 (i1 + 1) (by omega) (by omega) y101 (by omega) _ _ hT hF hS ls (lv_sub hl [0, 1, 2, 3, 4] rfl)
  exact key66 (20 - 0) 0 (by omega) (Nat.le_refl _) 0 (by have y8 : (0 : Int64).toInt = 0 := (by decide); omega) _ _ hT hF hS ls (lv_sub hl [0, 1, 2, 3, 4] rfl)
def w_c_ruledN : List Cond := .code yX0_ruled cX0_ruled 2 (some .int) :: (HAppend.hAppend (α := List Cond) (β := List Cond) (γ := List Cond) [.fieldLink RX0 41 "SeaLand$Board" "force" "LSeaLand$Law;", .fieldLink RX0 33 "SeaLand$Board" "facts" "[J", .code yX4_sumThatHolds cX4_sumThatHolds 6 (some .long), .fieldLink RX4 60 "SeaLand$Law" "lines" "I", .fieldLink RX4 18 "SeaLand$Law" "kinds" "[I", .code yX4_lineHolds cX4_lineHolds 6 (some .boolean), .fieldLink RX4 33 "SeaLand$Law" "stepFrom" "[I", .fieldLink RX4 36 "SeaLand$Law" "stepTo" "[I", .fieldLink RX4 39 "SeaLand$Law" "steps" "[I", .fieldLink RX4 42 "SeaLand$Law" "stack" "[J", .code yX4_joined cX4_joined 5 (some .long), .methodLink RX4 199 Lib.MathLoose.max_long.x, .static Lib.MathLoose.max_long.x, .initialized "java/lang/Math", .code Lib.MathLoose.max_long.x Lib.MathLoose.max_long.code 4 (some .long), .methodLink RX4 195 yX4_joined, .static yX4_joined, .initialized RX4, .methodLink RX4 203 yX4_lineHolds, .instanceMethod yX4_lineHolds, .selects RX4 yX4_lineHolds yX4_lineHolds, .fieldLink RX4 21 "SeaLand$Law" "firsts" "[I", .methodLink RX0 130 yX4_sumThatHolds, .instanceMethod yX4_sumThatHolds, .selects RX4 yX4_sumThatHolds yX4_sumThatHolds] bs2)
set_option maxHeartbeats 4000000 in
set_option maxRecDepth 100000 in
theorem c_ruledN (l : Launch) (dC : Nat → ClassId) (dI : Nat → Nat → Nat) (kA : Nat → ClassId) (adK adV : Nat → Nat) (G : gT) (H0 : Heap) (nC nS : Int) (o0 : Nat) (p0 : Int32)  (hT : gH (dC, dI) kA (SHc nC nS) G H0) (hr_o0 : G o0 = some 3) (hgC : 0 ≤ nC ∧ nC ≤ 40) (hgS : 0 ≤ nS ∧ nS ≤ 60) : Met l yX0_ruled w_c_ruledN ({ frames := 4, cells := 0, slots := 0, locals := 114 }) (va_Pc [.ref o0, .int p0] (fun U => U.heap = H0 ∧ va_K (dC, dI) vwCl (tyl kA) U ∧ EVC adK adV (gA G H0.size) U U.heap)) (va_Qi (fun (r : Int32) (u : Unit) => (0 ≤ r.toInt ∧ r.toInt ≤ 1999980)) (fun (_ : Unit) (t : State) => gH (dC, dI) kA (SHc nC nS) G t.heap ∧ gF (dC, dI) SKc G ([(50, 0)] : List (Nat × Nat)) H0 t.heap) (gA G H0.size)) 0 0 (gA G H0.size) := by
  refine Met.ofW (cc := cX0_ruled) (maxL := 2) (ret := (some .int)) (by decide) rfl ?_
  intro p e s m args below meth c s₁ B hml hv
  obtain ⟨rfl, hH0, hK, hE⟩ := hv
  have hx := B.exec
  have hb := B.bytes
  have hr := B.returns
  have hts := atoms_spec (ws := w_c_ruledN) B.pre
  have hown : s.vm.findClass RX0 = some m.cls := findClass_of_methodNamed B.named
  have hlocks := B.notSynchronized
  subst hH0
  generalize hAe : gA G s.heap.size = A at hE ⊢
  have hA : ∀ q : Nat, s.heap.size ≤ q → A q := fun q h => by rw [← hAe]; exact Or.inr h
  have hG := gA_of hAe
  have hS : va_S A s.heap s.heap [] := va_S.rf
  have hF : gF (dC, dI) SKc G ([(50, 0)] : List (Nat × Nat)) s.heap s.heap := gF.rf
  have hl := lv_entry ([.ref o0, .int p0]) (n := 2) (Nat.le_of_ble_eq_true rfl)
  rw [lg_entry_eq]
  generalize (lg_sl ([.ref o0, .int p0]) ++ List.replicate (2 - (lg_sl ([.ref o0, .int p0])).length) Slot.unset).toArray = ls at hl ⊢
  have hl : lv_has ls 2 [(0, .ref o0), (1, .int p0)] := hl
  refine lv_aload_n hx hb dX0_ruled_0 rfl (lv_at hl 0 rfl) ?_
  refine tw_get hx hb hts bF2_X0 hown hK hT hr_o0 shc_3 rfl 7 (by decide) (ht_at2 hts 0 rfl) (fun _ h9 => h9) dX0_ruled_1 (fun v9 m1 h9 => ?_)
  obtain ⟨b2, rfl, hg3⟩ := h9 _ rfl
  refine lv_iload_n hx hb dX0_ruled_4 rfl (lv_at hl 1 rfl) ?_
  refine lv_aload_n hx hb dX0_ruled_5 rfl (lv_at hl 0 rfl) ?_
  refine tw_get hx hb hts bF2_X0 hown hK hT hr_o0 shc_3 rfl 5 (by decide) (ht_at2 hts 1 rfl) (fun _ h9 => h9) dX0_ruled_6 (fun v9 m4 h9 => ?_)
  obtain ⟨b5, rfl, hg6⟩ := h9 _ rfl
  have hFc := gA_free hG hA hS
  refine va_calll (va_runV (As := [.int p0, .ref b5]) (rest := []) ⟨hx, hb, hml, hown, hts⟩ (c_sumThatHoldsN l dC dI kA adK adV G s.heap nC nS b2 p0 b5 hT hg6 hg3 (by omega) (by omega)) (cwV 2 hts (goodIn_app (goodIn_r _ [23, 24, 25, 18] rfl (by decide +kernel)) (goodIn_ca (goodIn_r _ [3, 4, 5, 6, 7, 8, 9, 10, 11, 12, 13, 14, 15, 16, 17, 18, 19, 20, 21, 22] rfl (by decide +kernel)) (bs2_in _ _))) rfl rfl rfl (by decide +kernel) ⟨(Nat.le_of_ble_eq_true rfl), (Nat.le_of_ble_eq_true rfl)⟩) ⟨fun a U g mk q => by obtain ⟨q0, q1, qK, qE⟩ := q; exact ⟨q0, q1, va_K.moved (u := U) (U := U.calling g mk a) (Vm.Alike.refl U.vm) qK, EVC.blind g mk a qE⟩, gH_rc hK hT hg3 shc_7 rfl, fun U hU hW => ⟨rfl, hU, va_K.moved hW.alike hK, hE.call hS hFc hU hW⟩⟩ rfl rfl hl.1 rfl (lv_room (Nat.le_of_ble_eq_true rfl)) dX0_ruled_9 ⟨(Nat.le_of_ble_eq_true rfl), (Nat.le_of_ble_eq_true rfl)⟩) hS (fun q _ h => hFc q h) hFc (fun r7 u t H locs ht hvm hw8 hB _ _ hS => ?_)
  obtain ⟨hT, hF1⟩ := hB
  rw [ht] at hT hF1
  have hF := hF.more hF1 (by decide)
  try dsimp only at hw8
  have hf11 := hw8
  have t12 : 0 ≤ r7.toInt ∧ r7.toInt ≤ 1999980 := hf11
  refine lv_l2i (v := r7.toInt32) hx hb dX0_ruled_12 rfl ?_
  refine lv_topi (fun x13 ex13 => ?_)
  have t14 : x13.toInt = r7.toInt := tl_i ex13 rfl (by omega) (by omega)
  exact W.iret (v := x13) hx hb hr (fun t ht hW => ⟨⟨x13, (), rfl, (by exact (by have q8 := ti_all x13; omega)), by (try dsimp only); rw [ht]; exact ⟨hT, hF⟩⟩, hS.F ht⟩) hS.2.2 dX0_ruled_13
def w_c_acresOfZ : List Cond := .code yX0_acresOf cX0_acresOf 4 (some .int) :: (HAppend.hAppend (α := List Cond) (β := List Cond) (γ := List Cond) [] bs2)
set_option maxHeartbeats 4000000 in
set_option maxRecDepth 100000 in
theorem c_acresOfZ (l : Launch) (dC : Nat → ClassId) (dI : Nat → Nat → Nat) (kA : Nat → ClassId) (adK adV : Nat → Nat) (G : gT) (H0 : Heap) (nC nS : Int) (o0 : Nat) (p0 : Nat) (fmv : Int32)  (hT : gH (dC, dI) kA (SHc nC nS) G H0) (hr_p0 : G p0 = some 10) (hr_o0 : G o0 = some 3) (hm_fmv : el H0 p0 (dI 10 7) = some (.int fmv)) (hq0 : -1 ≤ fmv.toInt ∧ fmv.toInt ≤ -1) (hgC : 0 ≤ nC ∧ nC ≤ 40) (hgS : 0 ≤ nS ∧ nS ≤ 60) : Met l yX0_acresOf w_c_acresOfZ ({ frames := 0, cells := 0, slots := 0, locals := 0 }) (va_Pc [.ref o0, .ref p0] (fun U => U.heap = H0 ∧ va_K (dC, dI) vwCl (tyl kA) U ∧ EVC adK adV (gA G H0.size) U U.heap)) (va_Qi (fun (r : Int32) (u : Unit) => (0 ≤ r.toInt ∧ r.toInt ≤ 0) ∧ (r = 0)) (fun (_ : Unit) (t : State) => gH (dC, dI) kA (SHc nC nS) G t.heap ∧ gF (dC, dI) SKc G ([] : List (Nat × Nat)) H0 t.heap) (gA G H0.size)) 0 0 (gA G H0.size) := by
  refine Met.ofW (cc := cX0_acresOf) (maxL := 4) (ret := (some .int)) (by decide) rfl ?_
  intro p e s m args below meth c s₁ B hml hv
  obtain ⟨rfl, hH0, hK, hE⟩ := hv
  have hx := B.exec
  have hb := B.bytes
  have hr := B.returns
  have hts := atoms_spec (ws := w_c_acresOfZ) B.pre
  have hown : s.vm.findClass RX0 = some m.cls := findClass_of_methodNamed B.named
  have hlocks := B.notSynchronized
  subst hH0
  generalize hAe : gA G s.heap.size = A at hE ⊢
  have hA : ∀ q : Nat, s.heap.size ≤ q → A q := fun q h => by rw [← hAe]; exact Or.inr h
  have hG := gA_of hAe
  have hS : va_S A s.heap s.heap [] := va_S.rf
  have hF : gF (dC, dI) SKc G ([] : List (Nat × Nat)) s.heap s.heap := gF.rf
  have hl := lv_entry ([.ref o0, .ref p0]) (n := 4) (Nat.le_of_ble_eq_true rfl)
  rw [lg_entry_eq]
  generalize (lg_sl ([.ref o0, .ref p0]) ++ List.replicate (4 - (lg_sl ([.ref o0, .ref p0])).length) Slot.unset).toArray = ls at hl ⊢
  have hl : lv_has ls 4 [(0, .ref o0), (1, .ref p0)] := hl
  refine lv_iconst (v := 0) hx hb dX0_acresOf_0 (by decide) ?_
  refine lv_istore_n (lv' := [(2, .int 0), (0, .ref o0), (1, .ref p0)]) hx hb dX0_acresOf_1 rfl hl (by decide) rfl (fun ls hl => ?_)
  refine lv_iconst (v := 0) hx hb dX0_acresOf_2 (by decide) ?_
  refine lv_istore_n (lv' := [(3, .int 0), (2, .int 0), (0, .ref o0), (1, .ref p0)]) hx hb dX0_acresOf_3 rfl hl (by decide) rfl (fun ls hl => ?_)
  refine lv_iload_n hx hb dX0_acresOf_4 rfl (lv_at hl 0 rfl) ?_
  refine lv_bipush (v := 96) hx hb dX0_acresOf_5 (by decide) ?_
  refine lv_icmp_ge (tgt := 45) hx hb dX0_acresOf_7 (by decide) (fun c1 => absurd c1 (by decide)) (fun c1 => ?_)
  refine lv_aload_n hx hb dX0_acresOf_10 rfl (lv_at hl 3 rfl) ?_
  refine tw_getNM (v := .int fmv) hx hb hts bF2_X7 hown hK hT hr_p0 shc_10 rfl 7 (by decide) (hE.nw 61 rfl) (fun _ h9 => h9) hm_fmv dX0_acresOf_11 ?_
  refine lv_iconst (v := (-1)) hx hb dX0_acresOf_14 (by decide) ?_
  refine lv_icmp_eq (tgt := 45) hx hb dX0_acresOf_15 (by decide) (fun c2 => ?_) (fun c2 => (by exfalso; have q9 : fmv.toInt ≠ (-1) := ti_ne c2 rfl (by decide); omega))
  have t3 : fmv.toInt = (-1) := ti_eq c2 rfl (by decide)
  refine lv_iload_n hx hb dX0_acresOf_45 rfl (lv_at hl 1 rfl) ?_
  exact W.iret (v := 0) hx hb hr (fun t ht hW => ⟨⟨0, (), rfl, (by exact ⟨(rg_t (a := 0) (by decide) (by first | decide | omega) (by first | decide | omega)), rfl⟩), by (try dsimp only); rw [ht]; exact ⟨hT, hF⟩⟩, hS.F ht⟩) hS.2.2 dX0_acresOf_46
def w_c_nearOfZ : List Cond := .code yX0_nearOf cX0_nearOf 5 (some .int) :: (HAppend.hAppend (α := List Cond) (β := List Cond) (γ := List Cond) [] bs2)
set_option maxHeartbeats 4000000 in
set_option maxRecDepth 100000 in
theorem c_nearOfZ (l : Launch) (dC : Nat → ClassId) (dI : Nat → Nat → Nat) (kA : Nat → ClassId) (adK adV : Nat → Nat) (G : gT) (H0 : Heap) (nC nS : Int) (o0 : Nat) (p0 : Nat) (p1 : Nat) (fmv : Int32)  (hT : gH (dC, dI) kA (SHc nC nS) G H0) (hr_p0 : G p0 = some 10) (hr_p1 : G p1 = some 6) (hr_o0 : G o0 = some 3) (hm_fmv : el H0 p0 (dI 10 7) = some (.int fmv)) (hq0 : -1 ≤ fmv.toInt ∧ fmv.toInt ≤ -1) (hgC : 0 ≤ nC ∧ nC ≤ 40) (hgS : 0 ≤ nS ∧ nS ≤ 60) : Met l yX0_nearOf w_c_nearOfZ ({ frames := 0, cells := 0, slots := 0, locals := 0 }) (va_Pc [.ref o0, .ref p0, .ref p1] (fun U => U.heap = H0 ∧ va_K (dC, dI) vwCl (tyl kA) U ∧ EVC adK adV (gA G H0.size) U U.heap)) (va_Qi (fun (r : Int32) (u : Unit) => (99 ≤ r.toInt ∧ r.toInt ≤ 99) ∧ (r = 99)) (fun (_ : Unit) (t : State) => gH (dC, dI) kA (SHc nC nS) G t.heap ∧ gF (dC, dI) SKc G ([] : List (Nat × Nat)) H0 t.heap) (gA G H0.size)) 0 0 (gA G H0.size) := by
  refine Met.ofW (cc := cX0_nearOf) (maxL := 5) (ret := (some .int)) (by decide) rfl ?_
  intro p e s m args below meth c s₁ B hml hv
  obtain ⟨rfl, hH0, hK, hE⟩ := hv
  have hx := B.exec
  have hb := B.bytes
  have hr := B.returns
  have hts := atoms_spec (ws := w_c_nearOfZ) B.pre
  have hown : s.vm.findClass RX0 = some m.cls := findClass_of_methodNamed B.named
  have hlocks := B.notSynchronized
  subst hH0
  generalize hAe : gA G s.heap.size = A at hE ⊢
  have hA : ∀ q : Nat, s.heap.size ≤ q → A q := fun q h => by rw [← hAe]; exact Or.inr h
  have hG := gA_of hAe
  have hS : va_S A s.heap s.heap [] := va_S.rf
  have hF : gF (dC, dI) SKc G ([] : List (Nat × Nat)) s.heap s.heap := gF.rf
  have hl := lv_entry ([.ref o0, .ref p0, .ref p1]) (n := 5) (Nat.le_of_ble_eq_true rfl)
  rw [lg_entry_eq]
  generalize (lg_sl ([.ref o0, .ref p0, .ref p1]) ++ List.replicate (5 - (lg_sl ([.ref o0, .ref p0, .ref p1])).length) Slot.unset).toArray = ls at hl ⊢
  have hl : lv_has ls 5 [(0, .ref o0), (1, .ref p0), (2, .ref p1)] := hl
  refine lv_bipush (v := 99) hx hb dX0_nearOf_0 (by decide) ?_
  refine lv_istore_n (lv' := [(3, .int 99), (0, .ref o0), (1, .ref p0), (2, .ref p1)]) hx hb dX0_nearOf_2 rfl hl (by decide) rfl (fun ls hl => ?_)
  refine lv_iconst (v := 0) hx hb dX0_nearOf_3 (by decide) ?_
  refine lv_istore (lv' := [(4, .int 0), (3, .int 99), (0, .ref o0), (1, .ref p0), (2, .ref p1)]) hx hb dX0_nearOf_4 hl (by decide) rfl (fun ls hl => ?_)
  refine lv_iload hx hb dX0_nearOf_6 (lv_at hl 0 rfl) ?_
  refine lv_bipush (v := 96) hx hb dX0_nearOf_8 (by decide) ?_
  refine lv_icmp_ge (tgt := 52) hx hb dX0_nearOf_10 (by decide) (fun c1 => absurd c1 (by decide)) (fun c1 => ?_)
  refine lv_aload_n hx hb dX0_nearOf_13 rfl (lv_at hl 3 rfl) ?_
  refine tw_getNM (v := .int fmv) hx hb hts bF2_X7 hown hK hT hr_p0 shc_10 rfl 7 (by decide) (hE.nw 61 rfl) (fun _ h9 => h9) hm_fmv dX0_nearOf_14 ?_
  refine lv_iconst (v := (-1)) hx hb dX0_nearOf_17 (by decide) ?_
  refine lv_icmp_eq (tgt := 52) hx hb dX0_nearOf_18 (by decide) (fun c2 => ?_) (fun c2 => (by exfalso; have q9 : fmv.toInt ≠ (-1) := ti_ne c2 rfl (by decide); omega))
  have t3 : fmv.toInt = (-1) := ti_eq c2 rfl (by decide)
  refine lv_iload_n hx hb dX0_nearOf_52 rfl (lv_at hl 1 rfl) ?_
  exact W.iret (v := 99) hx hb hr (fun t ht hW => ⟨⟨99, (), rfl, (by exact ⟨(rg_t (a := 99) (by decide) (by first | decide | omega) (by first | decide | omega)), rfl⟩), by (try dsimp only); rw [ht]; exact ⟨hT, hF⟩⟩, hS.F ht⟩) hS.2.2 dX0_nearOf_53
def w_c_gatherFactsZ : List Cond := .code yX0_gatherFacts cX0_gatherFacts 3 none :: (HAppend.hAppend (α := List Cond) (β := List Cond) (γ := List Cond) [.fieldLink RX0 33 "SeaLand$Board" "facts" "[J", .code yX0_acresOf cX0_acresOf 4 (some .int), .methodLink RX0 98 yX0_acresOf, .instanceMethod yX0_acresOf, .selects RX0 yX0_acresOf yX0_acresOf, .initialized RX0, .code yX0_nearOf cX0_nearOf 5 (some .int), .methodLink RX0 123 yX0_nearOf, .instanceMethod yX0_nearOf, .selects RX0 yX0_nearOf yX0_nearOf] bs2)
set_option maxHeartbeats 4000000 in
set_option maxRecDepth 100000 in
theorem c_gatherFactsZ (l : Launch) (dC : Nat → ClassId) (dI : Nat → Nat → Nat) (kA : Nat → ClassId) (adK adV : Nat → Nat) (G : gT) (H0 : Heap) (nC nS : Int) (o0 : Nat) (p0 : Nat) (p1 : Nat) (fa9 : Nat) (fmv : Int32) (gG : Int32) (gA9 : Int32) (gD9 : Int32) (gC9 : Int32) (gU9 : Int32) (gI9 : Int32) (gM9 : Int32) (gW9 : Int32) (fL : Nat → Int64)  (hT : gH (dC, dI) kA (SHc nC nS) G H0) (hr_p0 : G p0 = some 10) (hr_p1 : G p1 = some 6) (hr_o0 : G o0 = some 3) (hm_fa9 : el H0 o0 (dI 3 5) = some (.ref fa9)) (hr_fa9 : G fa9 = some 56) (hm_fmv : el H0 p0 (dI 10 7) = some (.int fmv)) (hm_gG : el H0 p0 (dI 10 8) = some (.int gG)) (hm_gA9 : el H0 p0 (dI 10 0) = some (.int gA9)) (hm_gD9 : el H0 p0 (dI 10 1) = some (.int gD9)) (hm_gC9 : el H0 p0 (dI 10 6) = some (.int gC9)) (hm_gU9 : el H0 p0 (dI 10 2) = some (.int gU9)) (hm_gI9 : el H0 p0 (dI 10 3) = some (.int gI9)) (hm_gM9 : el H0 p0 (dI 10 4) = some (.int gM9)) (hm_gW9 : el H0 p0 (dI 10 9) = some (.int gW9)) (hq0 : -1 ≤ fmv.toInt ∧ fmv.toInt ≤ -1) (hq1 : 0 ≤ gI9.toInt ∧ gI9.toInt ≤ 1) (hq2 : 0 ≤ gM9.toInt ∧ gM9.toInt ≤ 1) (hc_fL : ctl H0 fa9 10 fL) (hgC : 0 ≤ nC ∧ nC ≤ 40) (hgS : 0 ≤ nS ∧ nS ≤ 60) : Met l yX0_gatherFacts w_c_gatherFactsZ ({ frames := 1, cells := 0, slots := 0, locals := 24 }) (va_Pc [.ref o0, .ref p0, .ref p1] (fun U => U.heap = H0 ∧ va_K (dC, dI) vwCl (tyl kA) U ∧ EVC adK adV (gA G H0.size) U U.heap)) (va_Qv (fun (u : (Nat → Int64)) => (zfE [0, gG.toInt, gA9.toInt, gD9.toInt, gC9.toInt, gU9.toInt, gI9.toInt, gM9.toInt, 99, gW9.toInt] u)) (fun (fL1 : (Nat → Int64)) (t : State) => gH (dC, dI) kA (SHc nC nS) G t.heap ∧ gF (dC, dI) SKc G ([(56, 0)] : List (Nat × Nat)) H0 t.heap ∧ ctl t.heap fa9 10 fL1) (gA G H0.size)) 0 0 (gA G H0.size) := by
  refine Met.ofW (cc := cX0_gatherFacts) (maxL := 3) (ret := none) (by decide) rfl ?_
  intro p e s m args below meth c s₁ B hml hv
  obtain ⟨rfl, hH0, hK, hE⟩ := hv
  have hx := B.exec
  have hb := B.bytes
  have hr := B.returns
  have hts := atoms_spec (ws := w_c_gatherFactsZ) B.pre
  have hown : s.vm.findClass RX0 = some m.cls := findClass_of_methodNamed B.named
  have hlocks := B.notSynchronized
  subst hH0
  generalize hAe : gA G s.heap.size = A at hE ⊢
  have hA : ∀ q : Nat, s.heap.size ≤ q → A q := fun q h => by rw [← hAe]; exact Or.inr h
  have hG := gA_of hAe
  have hS : va_S A s.heap s.heap [] := va_S.rf
  have hF : gF (dC, dI) SKc G ([(56, 0)] : List (Nat × Nat)) s.heap s.heap := gF.rf
  have hl := lv_entry ([.ref o0, .ref p0, .ref p1]) (n := 3) (Nat.le_of_ble_eq_true rfl)
  rw [lg_entry_eq]
  generalize (lg_sl ([.ref o0, .ref p0, .ref p1]) ++ List.replicate (3 - (lg_sl ([.ref o0, .ref p0, .ref p1])).length) Slot.unset).toArray = ls at hl ⊢
  have hl : lv_has ls 3 [(0, .ref o0), (1, .ref p0), (2, .ref p1)] := hl
  refine lv_aload_n hx hb dX0_gatherFacts_0 rfl (lv_at hl 0 rfl) ?_
  refine tw_getM (v := .ref fa9) hx hb hts bF2_X0 hown hK hT hr_o0 shc_3 rfl 5 (by decide) (ht_at2 hts 0 rfl) (fun _ h9 => h9) hm_fa9 dX0_gatherFacts_1 ?_
  refine lv_iconst (v := 0) hx hb dX0_gatherFacts_4 (by decide) ?_
  refine lv_aload_n hx hb dX0_gatherFacts_5 rfl (lv_at hl 0 rfl) ?_
  refine lv_aload_n hx hb dX0_gatherFacts_6 rfl (lv_at hl 1 rfl) ?_
  have hFc := gA_free hG hA hS
  refine va_calli (va_runV (As := [.ref p0]) (rest := [.int 0, .ref fa9]) ⟨hx, hb, hml, hown, hts⟩ (c_acresOfZ l dC dI kA adK adV G s.heap nC nS o0 p0 fmv hT hr_p0 hr_o0 hm_fmv (by have q8 := ti_all fmv; omega) (by omega) (by omega)) (cwV 1 hts (goodIn_app (goodIn_r _ [3, 4, 5, 6] rfl (by decide +kernel)) (goodIn_ca (goodIn_r _ [2] rfl (by decide +kernel)) (bs2_in _ _))) rfl rfl rfl (by decide +kernel) ⟨(Nat.le_of_ble_eq_true rfl), (Nat.le_of_ble_eq_true rfl)⟩) ⟨fun a U g mk q => by obtain ⟨q0, q1, qK, qE⟩ := q; exact ⟨q0, q1, va_K.moved (u := U) (U := U.calling g mk a) (Vm.Alike.refl U.vm) qK, EVC.blind g mk a qE⟩, gH_rc hK hT hr_o0 shc_3 rfl, fun U hU hW => ⟨rfl, hU, va_K.moved hW.alike hK, hE.call hS hFc hU hW⟩⟩ rfl rfl hl.1 rfl (lv_room (Nat.le_of_ble_eq_true rfl)) dX0_gatherFacts_7 ⟨(Nat.le_of_ble_eq_true rfl), (Nat.le_of_ble_eq_true rfl)⟩) hS (fun q _ h => hFc q h) hFc (fun r1 u t H locs ht hvm hw2 hB _ _ hS => ?_)
  obtain ⟨hT, hF1⟩ := hB
  rw [ht] at hT hF1
  have m3 := (hF1.fld hr_o0 skc_3 (k := 5) (by decide) (by decide)).trans hm_fa9
  have m4 := (hF1.fld hr_p0 skc_10 (k := 7) (by decide) (by decide)).trans hm_fmv
  have m5 := (hF1.fld hr_p0 skc_10 (k := 8) (by decide) (by decide)).trans hm_gG
  have m6 := (hF1.fld hr_p0 skc_10 (k := 0) (by decide) (by decide)).trans hm_gA9
  have m7 := (hF1.fld hr_p0 skc_10 (k := 1) (by decide) (by decide)).trans hm_gD9
  have m8 := (hF1.fld hr_p0 skc_10 (k := 6) (by decide) (by decide)).trans hm_gC9
  have m9 := (hF1.fld hr_p0 skc_10 (k := 2) (by decide) (by decide)).trans hm_gU9
  have m10 := (hF1.fld hr_p0 skc_10 (k := 3) (by decide) (by decide)).trans hm_gI9
  have m11 := (hF1.fld hr_p0 skc_10 (k := 4) (by decide) (by decide)).trans hm_gM9
  have m12 := (hF1.fld hr_p0 skc_10 (k := 9) (by decide) (by decide)).trans hm_gW9
  have m13 := hc_fL.kept (hF1.arr hr_fa9 skc_56 (by decide))
  have hF := hF.more hF1 (by decide)
  try dsimp only at hw2
  obtain ⟨h14, hd15⟩ := hw2
  obtain rfl : (0 : Int32) = r1 := hd15.symm
  refine lv_i2l (v := 0) hx hb dX0_gatherFacts_10 (by decide) ?_
  refine tw_last (i := 0)  hx hb hK hT hG hS hr_fa9 shc_56 rfl (by unfold vp_in; decide) ⟨_, rfl⟩ dX0_gatherFacts_11 (fun H locs hT oq m16 oi hS => ?_)
  have hF := hF.ast hr_fa9 skc_56 oq (by decide)
  have m17 := (el_kept (oq _ (gne hr_o0 hr_fa9 (by decide)))).trans m3
  have m18 := (el_kept (oq _ (gne hr_p0 hr_fa9 (by decide)))).trans m4
  have m19 := (el_kept (oq _ (gne hr_p0 hr_fa9 (by decide)))).trans m5
  have m20 := (el_kept (oq _ (gne hr_p0 hr_fa9 (by decide)))).trans m6
  have m21 := (el_kept (oq _ (gne hr_p0 hr_fa9 (by decide)))).trans m7
  have m22 := (el_kept (oq _ (gne hr_p0 hr_fa9 (by decide)))).trans m8
  have m23 := (el_kept (oq _ (gne hr_p0 hr_fa9 (by decide)))).trans m9
  have m24 := (el_kept (oq _ (gne hr_p0 hr_fa9 (by decide)))).trans m10
  have m25 := (el_kept (oq _ (gne hr_p0 hr_fa9 (by decide)))).trans m11
  have m26 := (el_kept (oq _ (gne hr_p0 hr_fa9 (by decide)))).trans m12
  have m27 := m13.put m16 oi
  refine lv_aload_n hx hb dX0_gatherFacts_12 rfl (lv_at hl 0 rfl) ?_
  refine tw_getM (v := .ref fa9) hx hb hts bF2_X0 hown hK hT hr_o0 shc_3 rfl 5 (by decide) (ht_at2 hts 0 rfl) (fun _ h9 => h9) m17 dX0_gatherFacts_13 ?_
  refine lv_iconst (v := 1) hx hb dX0_gatherFacts_16 (by decide) ?_
  refine lv_aload_n hx hb dX0_gatherFacts_17 rfl (lv_at hl 1 rfl) ?_
  refine tw_getNM (v := .int gG) hx hb hts bF2_X7 hown hK hT hr_p0 shc_10 rfl 8 (by decide) (hE.nw 62 rfl) (fun _ h9 => h9) m19 dX0_gatherFacts_18 ?_
  refine lv_i2l (v := gG.toInt64) hx hb dX0_gatherFacts_21 rfl ?_
  refine tw_last (i := 1)  hx hb hK hT hG hS hr_fa9 shc_56 rfl (by unfold vp_in; decide) ⟨_, rfl⟩ dX0_gatherFacts_22 (fun H locs hT oq m28 oi hS => ?_)
  have hF := hF.ast hr_fa9 skc_56 oq (by decide)
  have m29 := (el_kept (oq _ (gne hr_o0 hr_fa9 (by decide)))).trans m17
  have m30 := (el_kept (oq _ (gne hr_p0 hr_fa9 (by decide)))).trans m18
  have m32 := (el_kept (oq _ (gne hr_p0 hr_fa9 (by decide)))).trans m20
  have m33 := (el_kept (oq _ (gne hr_p0 hr_fa9 (by decide)))).trans m21
  have m34 := (el_kept (oq _ (gne hr_p0 hr_fa9 (by decide)))).trans m22
  have m35 := (el_kept (oq _ (gne hr_p0 hr_fa9 (by decide)))).trans m23
  have m36 := (el_kept (oq _ (gne hr_p0 hr_fa9 (by decide)))).trans m24
  have m37 := (el_kept (oq _ (gne hr_p0 hr_fa9 (by decide)))).trans m25
  have m38 := (el_kept (oq _ (gne hr_p0 hr_fa9 (by decide)))).trans m26
  have m39 := m27.put m28 oi
  refine lv_aload_n hx hb dX0_gatherFacts_23 rfl (lv_at hl 0 rfl) ?_
  refine tw_getM (v := .ref fa9) hx hb hts bF2_X0 hown hK hT hr_o0 shc_3 rfl 5 (by decide) (ht_at2 hts 0 rfl) (fun _ h9 => h9) m29 dX0_gatherFacts_24 ?_
  refine lv_iconst (v := 2) hx hb dX0_gatherFacts_27 (by decide) ?_
  refine lv_aload_n hx hb dX0_gatherFacts_28 rfl (lv_at hl 1 rfl) ?_
  refine tw_getNM (v := .int gA9) hx hb hts bF2_X7 hown hK hT hr_p0 shc_10 rfl 0 (by decide) (hE.nw 63 rfl) (fun _ h9 => h9) m32 dX0_gatherFacts_29 ?_
  refine lv_i2l (v := gA9.toInt64) hx hb dX0_gatherFacts_32 rfl ?_
  refine tw_last (i := 2)  hx hb hK hT hG hS hr_fa9 shc_56 rfl (by unfold vp_in; decide) ⟨_, rfl⟩ dX0_gatherFacts_33 (fun H locs hT oq m40 oi hS => ?_)
  have hF := hF.ast hr_fa9 skc_56 oq (by decide)
  have m41 := (el_kept (oq _ (gne hr_o0 hr_fa9 (by decide)))).trans m29
  have m42 := (el_kept (oq _ (gne hr_p0 hr_fa9 (by decide)))).trans m30
  have m45 := (el_kept (oq _ (gne hr_p0 hr_fa9 (by decide)))).trans m33
  have m46 := (el_kept (oq _ (gne hr_p0 hr_fa9 (by decide)))).trans m34
  have m47 := (el_kept (oq _ (gne hr_p0 hr_fa9 (by decide)))).trans m35
  have m48 := (el_kept (oq _ (gne hr_p0 hr_fa9 (by decide)))).trans m36
  have m49 := (el_kept (oq _ (gne hr_p0 hr_fa9 (by decide)))).trans m37
  have m50 := (el_kept (oq _ (gne hr_p0 hr_fa9 (by decide)))).trans m38
  have m51 := m39.put m40 oi
  refine lv_aload_n hx hb dX0_gatherFacts_34 rfl (lv_at hl 0 rfl) ?_
  refine tw_getM (v := .ref fa9) hx hb hts bF2_X0 hown hK hT hr_o0 shc_3 rfl 5 (by decide) (ht_at2 hts 0 rfl) (fun _ h9 => h9) m41 dX0_gatherFacts_35 ?_
  refine lv_iconst (v := 3) hx hb dX0_gatherFacts_38 (by decide) ?_
  refine lv_aload_n hx hb dX0_gatherFacts_39 rfl (lv_at hl 1 rfl) ?_
  refine tw_getNM (v := .int gD9) hx hb hts bF2_X7 hown hK hT hr_p0 shc_10 rfl 1 (by decide) (hE.nw 64 rfl) (fun _ h9 => h9) m45 dX0_gatherFacts_40 ?_
  refine lv_i2l (v := gD9.toInt64) hx hb dX0_gatherFacts_43 rfl ?_
  refine tw_last (i := 3)  hx hb hK hT hG hS hr_fa9 shc_56 rfl (by unfold vp_in; decide) ⟨_, rfl⟩ dX0_gatherFacts_44 (fun H locs hT oq m52 oi hS => ?_)
  have hF := hF.ast hr_fa9 skc_56 oq (by decide)
  have m53 := (el_kept (oq _ (gne hr_o0 hr_fa9 (by decide)))).trans m41
  have m54 := (el_kept (oq _ (gne hr_p0 hr_fa9 (by decide)))).trans m42
  have m58 := (el_kept (oq _ (gne hr_p0 hr_fa9 (by decide)))).trans m46
  have m59 := (el_kept (oq _ (gne hr_p0 hr_fa9 (by decide)))).trans m47
  have m60 := (el_kept (oq _ (gne hr_p0 hr_fa9 (by decide)))).trans m48
  have m61 := (el_kept (oq _ (gne hr_p0 hr_fa9 (by decide)))).trans m49
  have m62 := (el_kept (oq _ (gne hr_p0 hr_fa9 (by decide)))).trans m50
  have m63 := m51.put m52 oi
  refine lv_aload_n hx hb dX0_gatherFacts_45 rfl (lv_at hl 0 rfl) ?_
  refine tw_getM (v := .ref fa9) hx hb hts bF2_X0 hown hK hT hr_o0 shc_3 rfl 5 (by decide) (ht_at2 hts 0 rfl) (fun _ h9 => h9) m53 dX0_gatherFacts_46 ?_
  refine lv_iconst (v := 4) hx hb dX0_gatherFacts_49 (by decide) ?_
  refine lv_aload_n hx hb dX0_gatherFacts_50 rfl (lv_at hl 1 rfl) ?_
  refine tw_getNM (v := .int gC9) hx hb hts bF2_X7 hown hK hT hr_p0 shc_10 rfl 6 (by decide) (hE.nw 65 rfl) (fun _ h9 => h9) m58 dX0_gatherFacts_51 ?_
  refine lv_i2l (v := gC9.toInt64) hx hb dX0_gatherFacts_54 rfl ?_
  refine tw_last (i := 4)  hx hb hK hT hG hS hr_fa9 shc_56 rfl (by unfold vp_in; decide) ⟨_, rfl⟩ dX0_gatherFacts_55 (fun H locs hT oq m64 oi hS => ?_)
  have hF := hF.ast hr_fa9 skc_56 oq (by decide)
  have m65 := (el_kept (oq _ (gne hr_o0 hr_fa9 (by decide)))).trans m53
  have m66 := (el_kept (oq _ (gne hr_p0 hr_fa9 (by decide)))).trans m54
  have m71 := (el_kept (oq _ (gne hr_p0 hr_fa9 (by decide)))).trans m59
  have m72 := (el_kept (oq _ (gne hr_p0 hr_fa9 (by decide)))).trans m60
  have m73 := (el_kept (oq _ (gne hr_p0 hr_fa9 (by decide)))).trans m61
  have m74 := (el_kept (oq _ (gne hr_p0 hr_fa9 (by decide)))).trans m62
  have m75 := m63.put m64 oi
  refine lv_aload_n hx hb dX0_gatherFacts_56 rfl (lv_at hl 0 rfl) ?_
  refine tw_getM (v := .ref fa9) hx hb hts bF2_X0 hown hK hT hr_o0 shc_3 rfl 5 (by decide) (ht_at2 hts 0 rfl) (fun _ h9 => h9) m65 dX0_gatherFacts_57 ?_
  refine lv_iconst (v := 5) hx hb dX0_gatherFacts_60 (by decide) ?_
  refine lv_aload_n hx hb dX0_gatherFacts_61 rfl (lv_at hl 1 rfl) ?_
  refine tw_getNM (v := .int gU9) hx hb hts bF2_X7 hown hK hT hr_p0 shc_10 rfl 2 (by decide) (hE.nw 66 rfl) (fun _ h9 => h9) m71 dX0_gatherFacts_62 ?_
  refine lv_i2l (v := gU9.toInt64) hx hb dX0_gatherFacts_65 rfl ?_
  refine tw_last (i := 5)  hx hb hK hT hG hS hr_fa9 shc_56 rfl (by unfold vp_in; decide) ⟨_, rfl⟩ dX0_gatherFacts_66 (fun H locs hT oq m76 oi hS => ?_)
  have hF := hF.ast hr_fa9 skc_56 oq (by decide)
  have m77 := (el_kept (oq _ (gne hr_o0 hr_fa9 (by decide)))).trans m65
  have m78 := (el_kept (oq _ (gne hr_p0 hr_fa9 (by decide)))).trans m66
  have m84 := (el_kept (oq _ (gne hr_p0 hr_fa9 (by decide)))).trans m72
  have m85 := (el_kept (oq _ (gne hr_p0 hr_fa9 (by decide)))).trans m73
  have m86 := (el_kept (oq _ (gne hr_p0 hr_fa9 (by decide)))).trans m74
  have m87 := m75.put m76 oi
  refine lv_aload_n hx hb dX0_gatherFacts_67 rfl (lv_at hl 0 rfl) ?_
  refine tw_getM (v := .ref fa9) hx hb hts bF2_X0 hown hK hT hr_o0 shc_3 rfl 5 (by decide) (ht_at2 hts 0 rfl) (fun _ h9 => h9) m77 dX0_gatherFacts_68 ?_
  refine lv_bipush (v := 6) hx hb dX0_gatherFacts_71 (by decide) ?_
  refine lv_aload_n hx hb dX0_gatherFacts_73 rfl (lv_at hl 1 rfl) ?_
  refine tw_getNM (v := .int gI9) hx hb hts bF2_X7 hown hK hT hr_p0 shc_10 rfl 3 (by decide) (hE.nw 67 rfl) (fun _ h9 => h9) m84 dX0_gatherFacts_74 ?_
  refine lv_if_eq (tgt := 84) hx hb dX0_gatherFacts_77 (by decide) (fun c88 => ?_) (fun c88 => ?_)
  · have t89 : gI9.toInt = 0 := ti_eq c88 rfl (by decide)
    refine lv_lconst (v := 0) hx hb dX0_gatherFacts_84 (by decide) ?_
    refine tw_last (i := 6)  hx hb hK hT hG hS hr_fa9 shc_56 rfl (by unfold vp_in; decide) ⟨_, rfl⟩ dX0_gatherFacts_85 (fun H locs hT oq m90 oi hS => ?_)
    have hF := hF.ast hr_fa9 skc_56 oq (by decide)
    have m91 := (el_kept (oq _ (gne hr_o0 hr_fa9 (by decide)))).trans m77
    have m92 := (el_kept (oq _ (gne hr_p0 hr_fa9 (by decide)))).trans m78
    have m99 := (el_kept (oq _ (gne hr_p0 hr_fa9 (by decide)))).trans m85
    have m100 := (el_kept (oq _ (gne hr_p0 hr_fa9 (by decide)))).trans m86
    have m101 := m87.put m90 oi
    refine lv_aload_n hx hb dX0_gatherFacts_86 rfl (lv_at hl 0 rfl) ?_
    refine tw_getM (v := .ref fa9) hx hb hts bF2_X0 hown hK hT hr_o0 shc_3 rfl 5 (by decide) (ht_at2 hts 0 rfl) (fun _ h9 => h9) m91 dX0_gatherFacts_87 ?_
    refine lv_bipush (v := 7) hx hb dX0_gatherFacts_90 (by decide) ?_
    refine lv_aload_n hx hb dX0_gatherFacts_92 rfl (lv_at hl 1 rfl) ?_
    refine tw_getNM (v := .int gM9) hx hb hts bF2_X7 hown hK hT hr_p0 shc_10 rfl 4 (by decide) (hE.nw 68 rfl) (fun _ h9 => h9) m99 dX0_gatherFacts_93 ?_
    refine lv_if_eq (tgt := 103) hx hb dX0_gatherFacts_96 (by decide) (fun c102 => ?_) (fun c102 => ?_)
    · have t103 : gM9.toInt = 0 := ti_eq c102 rfl (by decide)
      refine lv_lconst (v := 0) hx hb dX0_gatherFacts_103 (by decide) ?_
      refine tw_last (i := 7)  hx hb hK hT hG hS hr_fa9 shc_56 rfl (by unfold vp_in; decide) ⟨_, rfl⟩ dX0_gatherFacts_104 (fun H locs hT oq m104 oi hS => ?_)
      have hF := hF.ast hr_fa9 skc_56 oq (by decide)
      have m105 := (el_kept (oq _ (gne hr_o0 hr_fa9 (by decide)))).trans m91
      have m106 := (el_kept (oq _ (gne hr_p0 hr_fa9 (by decide)))).trans m92
      have m114 := (el_kept (oq _ (gne hr_p0 hr_fa9 (by decide)))).trans m100
      have m115 := m101.put m104 oi
      refine lv_aload_n hx hb dX0_gatherFacts_105 rfl (lv_at hl 0 rfl) ?_
      refine tw_getM (v := .ref fa9) hx hb hts bF2_X0 hown hK hT hr_o0 shc_3 rfl 5 (by decide) (ht_at2 hts 0 rfl) (fun _ h9 => h9) m105 dX0_gatherFacts_106 ?_
      refine lv_bipush (v := 8) hx hb dX0_gatherFacts_109 (by decide) ?_
      refine lv_aload_n hx hb dX0_gatherFacts_111 rfl (lv_at hl 0 rfl) ?_
      refine lv_aload_n hx hb dX0_gatherFacts_112 rfl (lv_at hl 1 rfl) ?_
      refine lv_aload_n hx hb dX0_gatherFacts_113 rfl (lv_at hl 2 rfl) ?_
      have hFc := gA_free hG hA hS
      refine va_calli (va_runV (As := [.ref p0, .ref p1]) (rest := [.int 8, .ref fa9]) ⟨hx, hb, hml, hown, hts⟩ (c_nearOfZ l dC dI kA adK adV G H nC nS o0 p0 p1 fmv hT hr_p0 hr_p1 hr_o0 m106 (by have q8 := ti_all fmv; omega) (by omega) (by omega)) (cwV 2 hts (goodIn_app (goodIn_r _ [8, 9, 10, 6] rfl (by decide +kernel)) (goodIn_ca (goodIn_r _ [7] rfl (by decide +kernel)) (bs2_in _ _))) rfl rfl rfl (by decide +kernel) ⟨(Nat.le_of_ble_eq_true rfl), (Nat.le_of_ble_eq_true rfl)⟩) ⟨fun a U g mk q => by obtain ⟨q0, q1, qK, qE⟩ := q; exact ⟨q0, q1, va_K.moved (u := U) (U := U.calling g mk a) (Vm.Alike.refl U.vm) qK, EVC.blind g mk a qE⟩, gH_rc hK hT hr_o0 shc_3 rfl, fun U hU hW => ⟨rfl, hU, va_K.moved hW.alike hK, hE.call hS hFc hU hW⟩⟩ rfl rfl hl.1 rfl (lv_room (Nat.le_of_ble_eq_true rfl)) dX0_gatherFacts_114 ⟨(Nat.le_of_ble_eq_true rfl), (Nat.le_of_ble_eq_true rfl)⟩) hS (fun q _ h => hFc q h) hFc (fun r116 u t H locs ht hvm hw117 hB _ _ hS => ?_)
      obtain ⟨hT, hF1⟩ := hB
      rw [ht] at hT hF1
      have m118 := (hF1.fld hr_o0 skc_3 (k := 5) (by decide) (by decide)).trans m105
      have m127 := (hF1.fld hr_p0 skc_10 (k := 9) (by decide) (by decide)).trans m114
      have m128 := m115.kept (hF1.arr hr_fa9 skc_56 (by decide))
      have hF := hF.more hF1 (by decide)
      try dsimp only at hw117
      obtain ⟨h129, hd130⟩ := hw117
      obtain rfl : (99 : Int32) = r116 := hd130.symm
      refine lv_i2l (v := 99) hx hb dX0_gatherFacts_117 (by decide) ?_
      refine tw_last (i := 8)  hx hb hK hT hG hS hr_fa9 shc_56 rfl (by unfold vp_in; decide) ⟨_, rfl⟩ dX0_gatherFacts_118 (fun H locs hT oq m131 oi hS => ?_)
      have hF := hF.ast hr_fa9 skc_56 oq (by decide)
      have m132 := (el_kept (oq _ (gne hr_o0 hr_fa9 (by decide)))).trans m118
      have m141 := (el_kept (oq _ (gne hr_p0 hr_fa9 (by decide)))).trans m127
      have m142 := m128.put m131 oi
      refine lv_aload_n hx hb dX0_gatherFacts_119 rfl (lv_at hl 0 rfl) ?_
      refine tw_getM (v := .ref fa9) hx hb hts bF2_X0 hown hK hT hr_o0 shc_3 rfl 5 (by decide) (ht_at2 hts 0 rfl) (fun _ h9 => h9) m132 dX0_gatherFacts_120 ?_
      refine lv_bipush (v := 9) hx hb dX0_gatherFacts_123 (by decide) ?_
      refine lv_aload_n hx hb dX0_gatherFacts_125 rfl (lv_at hl 1 rfl) ?_
      refine tw_getNM (v := .int gW9) hx hb hts bF2_X7 hown hK hT hr_p0 shc_10 rfl 9 (by decide) (hE.nw 69 rfl) (fun _ h9 => h9) m141 dX0_gatherFacts_126 ?_
      refine lv_i2l (v := gW9.toInt64) hx hb dX0_gatherFacts_129 rfl ?_
      refine tw_last (i := 9)  hx hb hK hT hG hS hr_fa9 shc_56 rfl (by unfold vp_in; decide) ⟨_, rfl⟩ dX0_gatherFacts_130 (fun H locs hT oq m143 oi hS => ?_)
      have hF := hF.ast hr_fa9 skc_56 oq (by decide)
      have m154 := m142.put m143 oi
      exact W.vret hx hb hr (fun t ht hW => ⟨⟨(cul (cul (cul (cul (cul (cul (cul (cul (cul (cul fL (0 : Int32).toNatClampNeg (0 : Int64)) (1 : Int32).toNatClampNeg gG.toInt64) (2 : Int32).toNatClampNeg gA9.toInt64) (3 : Int32).toNatClampNeg gD9.toInt64) (4 : Int32).toNatClampNeg gC9.toInt64) (5 : Int32).toNatClampNeg gU9.toInt64) (6 : Int32).toNatClampNeg (0 : Int64)) (7 : Int32).toNatClampNeg (0 : Int64)) (8 : Int32).toNatClampNeg (99 : Int64)) (9 : Int32).toNatClampNeg gW9.toInt64), rfl, (by exact (by intro k hk; (try dsimp only); rcases (show k = 0 ∨ k = 1 ∨ k = 2 ∨ k = 3 ∨ k = 4 ∨ k = 5 ∨ k = 6 ∨ k = 7 ∨ k = 8 ∨ k = 9 by omega) with rfl | rfl | rfl | rfl | rfl | rfl | rfl | rfl | rfl | rfl; (rw [cul_o (show (0 : Nat) ≠ (9 : Int32).toNatClampNeg from by decide), cul_o (show (0 : Nat) ≠ (8 : Int32).toNatClampNeg from by decide), cul_o (show (0 : Nat) ≠ (7 : Int32).toNatClampNeg from by decide), cul_o (show (0 : Nat) ≠ (6 : Int32).toNatClampNeg from by decide), cul_o (show (0 : Nat) ≠ (5 : Int32).toNatClampNeg from by decide), cul_o (show (0 : Nat) ≠ (4 : Int32).toNatClampNeg from by decide), cul_o (show (0 : Nat) ≠ (3 : Int32).toNatClampNeg from by decide), cul_o (show (0 : Nat) ≠ (2 : Int32).toNatClampNeg from by decide), cul_o (show (0 : Nat) ≠ (1 : Int32).toNatClampNeg from by decide), cul_s (show (0 : Nat) = (0 : Int32).toNatClampNeg from by decide)]; decide); (rw [cul_o (show (1 : Nat) ≠ (9 : Int32).toNatClampNeg from by decide), cul_o (show (1 : Nat) ≠ (8 : Int32).toNatClampNeg from by decide), cul_o (show (1 : Nat) ≠ (7 : Int32).toNatClampNeg from by decide), cul_o (show (1 : Nat) ≠ (6 : Int32).toNatClampNeg from by decide), cul_o (show (1 : Nat) ≠ (5 : Int32).toNatClampNeg from by decide), cul_o (show (1 : Nat) ≠ (4 : Int32).toNatClampNeg from by decide), cul_o (show (1 : Nat) ≠ (3 : Int32).toNatClampNeg from by decide), cul_o (show (1 : Nat) ≠ (2 : Int32).toNatClampNeg from by decide), cul_s (show (1 : Nat) = (1 : Int32).toNatClampNeg from by decide)]; rw [i2l_of]; rfl); (rw [cul_o (show (2 : Nat) ≠ (9 : Int32).toNatClampNeg from by decide), cul_o (show (2 : Nat) ≠ (8 : Int32).toNatClampNeg from by decide), cul_o (show (2 : Nat) ≠ (7 : Int32).toNatClampNeg from by decide), cul_o (show (2 : Nat) ≠ (6 : Int32).toNatClampNeg from by decide), cul_o (show (2 : Nat) ≠ (5 : Int32).toNatClampNeg from by decide), cul_o (show (2 : Nat) ≠ (4 : Int32).toNatClampNeg from by decide), cul_o (show (2 : Nat) ≠ (3 : Int32).toNatClampNeg from by decide), cul_s (show (2 : Nat) = (2 : Int32).toNatClampNeg from by decide)]; rw [i2l_of]; rfl); (rw [cul_o (show (3 : Nat) ≠ (9 : Int32).toNatClampNeg from by decide), cul_o (show (3 : Nat) ≠ (8 : Int32).toNatClampNeg from by decide), cul_o (show (3 : Nat) ≠ (7 : Int32).toNatClampNeg from by decide), cul_o (show (3 : Nat) ≠ (6 : Int32).toNatClampNeg from by decide), cul_o (show (3 : Nat) ≠ (5 : Int32).toNatClampNeg from by decide), cul_o (show (3 : Nat) ≠ (4 : Int32).toNatClampNeg from by decide), cul_s (show (3 : Nat) = (3 : Int32).toNatClampNeg from by decide)]; rw [i2l_of]; rfl); (rw [cul_o (show (4 : Nat) ≠ (9 : Int32).toNatClampNeg from by decide), cul_o (show (4 : Nat) ≠ (8 : Int32).toNatClampNeg from by decide), cul_o (show (4 : Nat) ≠ (7 : Int32).toNatClampNeg from by decide), cul_o (show (4 : Nat) ≠ (6 : Int32).toNatClampNeg from by decide), cul_o (show (4 : Nat) ≠ (5 : Int32).toNatClampNeg from by decide), cul_s (show (4 : Nat) = (4 : Int32).toNatClampNeg from by decide)]; rw [i2l_of]; rfl); (rw [cul_o (show (5 : Nat) ≠ (9 : Int32).toNatClampNeg from by decide), cul_o (show (5 : Nat) ≠ (8 : Int32).toNatClampNeg from by decide), cul_o (show (5 : Nat) ≠ (7 : Int32).toNatClampNeg from by decide), cul_o (show (5 : Nat) ≠ (6 : Int32).toNatClampNeg from by decide), cul_s (show (5 : Nat) = (5 : Int32).toNatClampNeg from by decide)]; rw [i2l_of]; rfl); (rw [cul_o (show (6 : Nat) ≠ (9 : Int32).toNatClampNeg from by decide), cul_o (show (6 : Nat) ≠ (8 : Int32).toNatClampNeg from by decide), cul_o (show (6 : Nat) ≠ (7 : Int32).toNatClampNeg from by decide), cul_s (show (6 : Nat) = (6 : Int32).toNatClampNeg from by decide)]; show _ = Int64.ofInt gI9.toInt; rw [show gI9.toInt = 0 from by omega]; decide); (rw [cul_o (show (7 : Nat) ≠ (9 : Int32).toNatClampNeg from by decide), cul_o (show (7 : Nat) ≠ (8 : Int32).toNatClampNeg from by decide), cul_s (show (7 : Nat) = (7 : Int32).toNatClampNeg from by decide)]; show _ = Int64.ofInt gM9.toInt; rw [show gM9.toInt = 0 from by omega]; decide); (rw [cul_o (show (8 : Nat) ≠ (9 : Int32).toNatClampNeg from by decide), cul_s (show (8 : Nat) = (8 : Int32).toNatClampNeg from by decide)]; decide); (rw [cul_s (show (9 : Nat) = (9 : Int32).toNatClampNeg from by decide)]; rw [i2l_of]; rfl))), by (try dsimp only); rw [ht]; exact ⟨hT, hF, m154⟩⟩, hS.F ht⟩) hS.2.2 dX0_gatherFacts_131
    · have t155 : gM9.toInt ≠ 0 := ti_ne c102 rfl (by decide)
      refine lv_lconst (v := 1) hx hb dX0_gatherFacts_99 (by decide) ?_
      refine lv_goto (tgt := 104) hx hb dX0_gatherFacts_100 (by decide) ?_
      refine tw_last (i := 7)  hx hb hK hT hG hS hr_fa9 shc_56 rfl (by unfold vp_in; decide) ⟨_, rfl⟩ dX0_gatherFacts_104 (fun H locs hT oq m156 oi hS => ?_)
      have hF := hF.ast hr_fa9 skc_56 oq (by decide)
      have m157 := (el_kept (oq _ (gne hr_o0 hr_fa9 (by decide)))).trans m91
      have m158 := (el_kept (oq _ (gne hr_p0 hr_fa9 (by decide)))).trans m92
      have m166 := (el_kept (oq _ (gne hr_p0 hr_fa9 (by decide)))).trans m100
      have m167 := m101.put m156 oi
      refine lv_aload_n hx hb dX0_gatherFacts_105 rfl (lv_at hl 0 rfl) ?_
      refine tw_getM (v := .ref fa9) hx hb hts bF2_X0 hown hK hT hr_o0 shc_3 rfl 5 (by decide) (ht_at2 hts 0 rfl) (fun _ h9 => h9) m157 dX0_gatherFacts_106 ?_
      refine lv_bipush (v := 8) hx hb dX0_gatherFacts_109 (by decide) ?_
      refine lv_aload_n hx hb dX0_gatherFacts_111 rfl (lv_at hl 0 rfl) ?_
      refine lv_aload_n hx hb dX0_gatherFacts_112 rfl (lv_at hl 1 rfl) ?_
      refine lv_aload_n hx hb dX0_gatherFacts_113 rfl (lv_at hl 2 rfl) ?_
      have hFc := gA_free hG hA hS
      refine va_calli (va_runV (As := [.ref p0, .ref p1]) (rest := [.int 8, .ref fa9]) ⟨hx, hb, hml, hown, hts⟩ (c_nearOfZ l dC dI kA adK adV G H nC nS o0 p0 p1 fmv hT hr_p0 hr_p1 hr_o0 m158 (by have q8 := ti_all fmv; omega) (by omega) (by omega)) (cwV 2 hts (goodIn_app (goodIn_r _ [8, 9, 10, 6] rfl (by decide +kernel)) (goodIn_ca (goodIn_r _ [7] rfl (by decide +kernel)) (bs2_in _ _))) rfl rfl rfl (by decide +kernel) ⟨(Nat.le_of_ble_eq_true rfl), (Nat.le_of_ble_eq_true rfl)⟩) ⟨fun a U g mk q => by obtain ⟨q0, q1, qK, qE⟩ := q; exact ⟨q0, q1, va_K.moved (u := U) (U := U.calling g mk a) (Vm.Alike.refl U.vm) qK, EVC.blind g mk a qE⟩, gH_rc hK hT hr_o0 shc_3 rfl, fun U hU hW => ⟨rfl, hU, va_K.moved hW.alike hK, hE.call hS hFc hU hW⟩⟩ rfl rfl hl.1 rfl (lv_room (Nat.le_of_ble_eq_true rfl)) dX0_gatherFacts_114 ⟨(Nat.le_of_ble_eq_true rfl), (Nat.le_of_ble_eq_true rfl)⟩) hS (fun q _ h => hFc q h) hFc (fun r168 u t H locs ht hvm hw169 hB _ _ hS => ?_)
      obtain ⟨hT, hF1⟩ := hB
      rw [ht] at hT hF1
      have m170 := (hF1.fld hr_o0 skc_3 (k := 5) (by decide) (by decide)).trans m157
      have m179 := (hF1.fld hr_p0 skc_10 (k := 9) (by decide) (by decide)).trans m166
      have m180 := m167.kept (hF1.arr hr_fa9 skc_56 (by decide))
      have hF := hF.more hF1 (by decide)
      try dsimp only at hw169
      obtain ⟨h181, hd182⟩ := hw169
      obtain rfl : (99 : Int32) = r168 := hd182.symm
      refine lv_i2l (v := 99) hx hb dX0_gatherFacts_117 (by decide) ?_
      refine tw_last (i := 8)  hx hb hK hT hG hS hr_fa9 shc_56 rfl (by unfold vp_in; decide) ⟨_, rfl⟩ dX0_gatherFacts_118 (fun H locs hT oq m183 oi hS => ?_)
      have hF := hF.ast hr_fa9 skc_56 oq (by decide)
      have m184 := (el_kept (oq _ (gne hr_o0 hr_fa9 (by decide)))).trans m170
      have m193 := (el_kept (oq _ (gne hr_p0 hr_fa9 (by decide)))).trans m179
      have m194 := m180.put m183 oi
      refine lv_aload_n hx hb dX0_gatherFacts_119 rfl (lv_at hl 0 rfl) ?_
      refine tw_getM (v := .ref fa9) hx hb hts bF2_X0 hown hK hT hr_o0 shc_3 rfl 5 (by decide) (ht_at2 hts 0 rfl) (fun _ h9 => h9) m184 dX0_gatherFacts_120 ?_
      refine lv_bipush (v := 9) hx hb dX0_gatherFacts_123 (by decide) ?_
      refine lv_aload_n hx hb dX0_gatherFacts_125 rfl (lv_at hl 1 rfl) ?_
      refine tw_getNM (v := .int gW9) hx hb hts bF2_X7 hown hK hT hr_p0 shc_10 rfl 9 (by decide) (hE.nw 69 rfl) (fun _ h9 => h9) m193 dX0_gatherFacts_126 ?_
      refine lv_i2l (v := gW9.toInt64) hx hb dX0_gatherFacts_129 rfl ?_
      refine tw_last (i := 9)  hx hb hK hT hG hS hr_fa9 shc_56 rfl (by unfold vp_in; decide) ⟨_, rfl⟩ dX0_gatherFacts_130 (fun H locs hT oq m195 oi hS => ?_)
      have hF := hF.ast hr_fa9 skc_56 oq (by decide)
      have m206 := m194.put m195 oi
      exact W.vret hx hb hr (fun t ht hW => ⟨⟨(cul (cul (cul (cul (cul (cul (cul (cul (cul (cul fL (0 : Int32).toNatClampNeg (0 : Int64)) (1 : Int32).toNatClampNeg gG.toInt64) (2 : Int32).toNatClampNeg gA9.toInt64) (3 : Int32).toNatClampNeg gD9.toInt64) (4 : Int32).toNatClampNeg gC9.toInt64) (5 : Int32).toNatClampNeg gU9.toInt64) (6 : Int32).toNatClampNeg (0 : Int64)) (7 : Int32).toNatClampNeg (1 : Int64)) (8 : Int32).toNatClampNeg (99 : Int64)) (9 : Int32).toNatClampNeg gW9.toInt64), rfl, (by exact (by intro k hk; (try dsimp only); rcases (show k = 0 ∨ k = 1 ∨ k = 2 ∨ k = 3 ∨ k = 4 ∨ k = 5 ∨ k = 6 ∨ k = 7 ∨ k = 8 ∨ k = 9 by omega) with rfl | rfl | rfl | rfl | rfl | rfl | rfl | rfl | rfl | rfl; (rw [cul_o (show (0 : Nat) ≠ (9 : Int32).toNatClampNeg from by decide), cul_o (show (0 : Nat) ≠ (8 : Int32).toNatClampNeg from by decide), cul_o (show (0 : Nat) ≠ (7 : Int32).toNatClampNeg from by decide), cul_o (show (0 : Nat) ≠ (6 : Int32).toNatClampNeg from by decide), cul_o (show (0 : Nat) ≠ (5 : Int32).toNatClampNeg from by decide), cul_o (show (0 : Nat) ≠ (4 : Int32).toNatClampNeg from by decide), cul_o (show (0 : Nat) ≠ (3 : Int32).toNatClampNeg from by decide), cul_o (show (0 : Nat) ≠ (2 : Int32).toNatClampNeg from by decide), cul_o (show (0 : Nat) ≠ (1 : Int32).toNatClampNeg from by decide), cul_s (show (0 : Nat) = (0 : Int32).toNatClampNeg from by decide)]; decide); (rw [cul_o (show (1 : Nat) ≠ (9 : Int32).toNatClampNeg from by decide), cul_o (show (1 : Nat) ≠ (8 : Int32).toNatClampNeg from by decide), cul_o (show (1 : Nat) ≠ (7 : Int32).toNatClampNeg from by decide), cul_o (show (1 : Nat) ≠ (6 : Int32).toNatClampNeg from by decide), cul_o (show (1 : Nat) ≠ (5 : Int32).toNatClampNeg from by decide), cul_o (show (1 : Nat) ≠ (4 : Int32).toNatClampNeg from by decide), cul_o (show (1 : Nat) ≠ (3 : Int32).toNatClampNeg from by decide), cul_o (show (1 : Nat) ≠ (2 : Int32).toNatClampNeg from by decide), cul_s (show (1 : Nat) = (1 : Int32).toNatClampNeg from by decide)]; rw [i2l_of]; rfl); (rw [cul_o (show (2 : Nat) ≠ (9 : Int32).toNatClampNeg from by decide), cul_o (show (2 : Nat) ≠ (8 : Int32).toNatClampNeg from by decide), cul_o (show (2 : Nat) ≠ (7 : Int32).toNatClampNeg from by decide), cul_o (show (2 : Nat) ≠ (6 : Int32).toNatClampNeg from by decide), cul_o (show (2 : Nat) ≠ (5 : Int32).toNatClampNeg from by decide), cul_o (show (2 : Nat) ≠ (4 : Int32).toNatClampNeg from by decide), cul_o (show (2 : Nat) ≠ (3 : Int32).toNatClampNeg from by decide), cul_s (show (2 : Nat) = (2 : Int32).toNatClampNeg from by decide)]; rw [i2l_of]; rfl); (rw [cul_o (show (3 : Nat) ≠ (9 : Int32).toNatClampNeg from by decide), cul_o (show (3 : Nat) ≠ (8 : Int32).toNatClampNeg from by decide), cul_o (show (3 : Nat) ≠ (7 : Int32).toNatClampNeg from by decide), cul_o (show (3 : Nat) ≠ (6 : Int32).toNatClampNeg from by decide), cul_o (show (3 : Nat) ≠ (5 : Int32).toNatClampNeg from by decide), cul_o (show (3 : Nat) ≠ (4 : Int32).toNatClampNeg from by decide), cul_s (show (3 : Nat) = (3 : Int32).toNatClampNeg from by decide)]; rw [i2l_of]; rfl); (rw [cul_o (show (4 : Nat) ≠ (9 : Int32).toNatClampNeg from by decide), cul_o (show (4 : Nat) ≠ (8 : Int32).toNatClampNeg from by decide), cul_o (show (4 : Nat) ≠ (7 : Int32).toNatClampNeg from by decide), cul_o (show (4 : Nat) ≠ (6 : Int32).toNatClampNeg from by decide), cul_o (show (4 : Nat) ≠ (5 : Int32).toNatClampNeg from by decide), cul_s (show (4 : Nat) = (4 : Int32).toNatClampNeg from by decide)]; rw [i2l_of]; rfl); (rw [cul_o (show (5 : Nat) ≠ (9 : Int32).toNatClampNeg from by decide), cul_o (show (5 : Nat) ≠ (8 : Int32).toNatClampNeg from by decide), cul_o (show (5 : Nat) ≠ (7 : Int32).toNatClampNeg from by decide), cul_o (show (5 : Nat) ≠ (6 : Int32).toNatClampNeg from by decide), cul_s (show (5 : Nat) = (5 : Int32).toNatClampNeg from by decide)]; rw [i2l_of]; rfl); (rw [cul_o (show (6 : Nat) ≠ (9 : Int32).toNatClampNeg from by decide), cul_o (show (6 : Nat) ≠ (8 : Int32).toNatClampNeg from by decide), cul_o (show (6 : Nat) ≠ (7 : Int32).toNatClampNeg from by decide), cul_s (show (6 : Nat) = (6 : Int32).toNatClampNeg from by decide)]; show _ = Int64.ofInt gI9.toInt; rw [show gI9.toInt = 0 from by omega]; decide); (rw [cul_o (show (7 : Nat) ≠ (9 : Int32).toNatClampNeg from by decide), cul_o (show (7 : Nat) ≠ (8 : Int32).toNatClampNeg from by decide), cul_s (show (7 : Nat) = (7 : Int32).toNatClampNeg from by decide)]; show _ = Int64.ofInt gM9.toInt; rw [show gM9.toInt = 1 from by omega]; decide); (rw [cul_o (show (8 : Nat) ≠ (9 : Int32).toNatClampNeg from by decide), cul_s (show (8 : Nat) = (8 : Int32).toNatClampNeg from by decide)]; decide); (rw [cul_s (show (9 : Nat) = (9 : Int32).toNatClampNeg from by decide)]; rw [i2l_of]; rfl))), by (try dsimp only); rw [ht]; exact ⟨hT, hF, m206⟩⟩, hS.F ht⟩) hS.2.2 dX0_gatherFacts_131
  · have t207 : gI9.toInt ≠ 0 := ti_ne c88 rfl (by decide)
    refine lv_lconst (v := 1) hx hb dX0_gatherFacts_80 (by decide) ?_
    refine lv_goto (tgt := 85) hx hb dX0_gatherFacts_81 (by decide) ?_
    refine tw_last (i := 6)  hx hb hK hT hG hS hr_fa9 shc_56 rfl (by unfold vp_in; decide) ⟨_, rfl⟩ dX0_gatherFacts_85 (fun H locs hT oq m208 oi hS => ?_)
    have hF := hF.ast hr_fa9 skc_56 oq (by decide)
    have m209 := (el_kept (oq _ (gne hr_o0 hr_fa9 (by decide)))).trans m77
    have m210 := (el_kept (oq _ (gne hr_p0 hr_fa9 (by decide)))).trans m78
    have m217 := (el_kept (oq _ (gne hr_p0 hr_fa9 (by decide)))).trans m85
    have m218 := (el_kept (oq _ (gne hr_p0 hr_fa9 (by decide)))).trans m86
    have m219 := m87.put m208 oi
    refine lv_aload_n hx hb dX0_gatherFacts_86 rfl (lv_at hl 0 rfl) ?_
    refine tw_getM (v := .ref fa9) hx hb hts bF2_X0 hown hK hT hr_o0 shc_3 rfl 5 (by decide) (ht_at2 hts 0 rfl) (fun _ h9 => h9) m209 dX0_gatherFacts_87 ?_
    refine lv_bipush (v := 7) hx hb dX0_gatherFacts_90 (by decide) ?_
    refine lv_aload_n hx hb dX0_gatherFacts_92 rfl (lv_at hl 1 rfl) ?_
    refine tw_getNM (v := .int gM9) hx hb hts bF2_X7 hown hK hT hr_p0 shc_10 rfl 4 (by decide) (hE.nw 68 rfl) (fun _ h9 => h9) m217 dX0_gatherFacts_93 ?_
    refine lv_if_eq (tgt := 103) hx hb dX0_gatherFacts_96 (by decide) (fun c220 => ?_) (fun c220 => ?_)
    · have t221 : gM9.toInt = 0 := ti_eq c220 rfl (by decide)
      refine lv_lconst (v := 0) hx hb dX0_gatherFacts_103 (by decide) ?_
      refine tw_last (i := 7)  hx hb hK hT hG hS hr_fa9 shc_56 rfl (by unfold vp_in; decide) ⟨_, rfl⟩ dX0_gatherFacts_104 (fun H locs hT oq m222 oi hS => ?_)
      have hF := hF.ast hr_fa9 skc_56 oq (by decide)
      have m223 := (el_kept (oq _ (gne hr_o0 hr_fa9 (by decide)))).trans m209
      have m224 := (el_kept (oq _ (gne hr_p0 hr_fa9 (by decide)))).trans m210
      have m232 := (el_kept (oq _ (gne hr_p0 hr_fa9 (by decide)))).trans m218
      have m233 := m219.put m222 oi
      refine lv_aload_n hx hb dX0_gatherFacts_105 rfl (lv_at hl 0 rfl) ?_
      refine tw_getM (v := .ref fa9) hx hb hts bF2_X0 hown hK hT hr_o0 shc_3 rfl 5 (by decide) (ht_at2 hts 0 rfl) (fun _ h9 => h9) m223 dX0_gatherFacts_106 ?_
      refine lv_bipush (v := 8) hx hb dX0_gatherFacts_109 (by decide) ?_
      refine lv_aload_n hx hb dX0_gatherFacts_111 rfl (lv_at hl 0 rfl) ?_
      refine lv_aload_n hx hb dX0_gatherFacts_112 rfl (lv_at hl 1 rfl) ?_
      refine lv_aload_n hx hb dX0_gatherFacts_113 rfl (lv_at hl 2 rfl) ?_
      have hFc := gA_free hG hA hS
      refine va_calli (va_runV (As := [.ref p0, .ref p1]) (rest := [.int 8, .ref fa9]) ⟨hx, hb, hml, hown, hts⟩ (c_nearOfZ l dC dI kA adK adV G H nC nS o0 p0 p1 fmv hT hr_p0 hr_p1 hr_o0 m224 (by have q8 := ti_all fmv; omega) (by omega) (by omega)) (cwV 2 hts (goodIn_app (goodIn_r _ [8, 9, 10, 6] rfl (by decide +kernel)) (goodIn_ca (goodIn_r _ [7] rfl (by decide +kernel)) (bs2_in _ _))) rfl rfl rfl (by decide +kernel) ⟨(Nat.le_of_ble_eq_true rfl), (Nat.le_of_ble_eq_true rfl)⟩) ⟨fun a U g mk q => by obtain ⟨q0, q1, qK, qE⟩ := q; exact ⟨q0, q1, va_K.moved (u := U) (U := U.calling g mk a) (Vm.Alike.refl U.vm) qK, EVC.blind g mk a qE⟩, gH_rc hK hT hr_o0 shc_3 rfl, fun U hU hW => ⟨rfl, hU, va_K.moved hW.alike hK, hE.call hS hFc hU hW⟩⟩ rfl rfl hl.1 rfl (lv_room (Nat.le_of_ble_eq_true rfl)) dX0_gatherFacts_114 ⟨(Nat.le_of_ble_eq_true rfl), (Nat.le_of_ble_eq_true rfl)⟩) hS (fun q _ h => hFc q h) hFc (fun r234 u t H locs ht hvm hw235 hB _ _ hS => ?_)
      obtain ⟨hT, hF1⟩ := hB
      rw [ht] at hT hF1
      have m236 := (hF1.fld hr_o0 skc_3 (k := 5) (by decide) (by decide)).trans m223
      have m245 := (hF1.fld hr_p0 skc_10 (k := 9) (by decide) (by decide)).trans m232
      have m246 := m233.kept (hF1.arr hr_fa9 skc_56 (by decide))
      have hF := hF.more hF1 (by decide)
      try dsimp only at hw235
      obtain ⟨h247, hd248⟩ := hw235
      obtain rfl : (99 : Int32) = r234 := hd248.symm
      refine lv_i2l (v := 99) hx hb dX0_gatherFacts_117 (by decide) ?_
      refine tw_last (i := 8)  hx hb hK hT hG hS hr_fa9 shc_56 rfl (by unfold vp_in; decide) ⟨_, rfl⟩ dX0_gatherFacts_118 (fun H locs hT oq m249 oi hS => ?_)
      have hF := hF.ast hr_fa9 skc_56 oq (by decide)
      have m250 := (el_kept (oq _ (gne hr_o0 hr_fa9 (by decide)))).trans m236
      have m259 := (el_kept (oq _ (gne hr_p0 hr_fa9 (by decide)))).trans m245
      have m260 := m246.put m249 oi
      refine lv_aload_n hx hb dX0_gatherFacts_119 rfl (lv_at hl 0 rfl) ?_
      refine tw_getM (v := .ref fa9) hx hb hts bF2_X0 hown hK hT hr_o0 shc_3 rfl 5 (by decide) (ht_at2 hts 0 rfl) (fun _ h9 => h9) m250 dX0_gatherFacts_120 ?_
      refine lv_bipush (v := 9) hx hb dX0_gatherFacts_123 (by decide) ?_
      refine lv_aload_n hx hb dX0_gatherFacts_125 rfl (lv_at hl 1 rfl) ?_
      refine tw_getNM (v := .int gW9) hx hb hts bF2_X7 hown hK hT hr_p0 shc_10 rfl 9 (by decide) (hE.nw 69 rfl) (fun _ h9 => h9) m259 dX0_gatherFacts_126 ?_
      refine lv_i2l (v := gW9.toInt64) hx hb dX0_gatherFacts_129 rfl ?_
      refine tw_last (i := 9)  hx hb hK hT hG hS hr_fa9 shc_56 rfl (by unfold vp_in; decide) ⟨_, rfl⟩ dX0_gatherFacts_130 (fun H locs hT oq m261 oi hS => ?_)
      have hF := hF.ast hr_fa9 skc_56 oq (by decide)
      have m272 := m260.put m261 oi
      exact W.vret hx hb hr (fun t ht hW => ⟨⟨(cul (cul (cul (cul (cul (cul (cul (cul (cul (cul fL (0 : Int32).toNatClampNeg (0 : Int64)) (1 : Int32).toNatClampNeg gG.toInt64) (2 : Int32).toNatClampNeg gA9.toInt64) (3 : Int32).toNatClampNeg gD9.toInt64) (4 : Int32).toNatClampNeg gC9.toInt64) (5 : Int32).toNatClampNeg gU9.toInt64) (6 : Int32).toNatClampNeg (1 : Int64)) (7 : Int32).toNatClampNeg (0 : Int64)) (8 : Int32).toNatClampNeg (99 : Int64)) (9 : Int32).toNatClampNeg gW9.toInt64), rfl, (by exact (by intro k hk; (try dsimp only); rcases (show k = 0 ∨ k = 1 ∨ k = 2 ∨ k = 3 ∨ k = 4 ∨ k = 5 ∨ k = 6 ∨ k = 7 ∨ k = 8 ∨ k = 9 by omega) with rfl | rfl | rfl | rfl | rfl | rfl | rfl | rfl | rfl | rfl; (rw [cul_o (show (0 : Nat) ≠ (9 : Int32).toNatClampNeg from by decide), cul_o (show (0 : Nat) ≠ (8 : Int32).toNatClampNeg from by decide), cul_o (show (0 : Nat) ≠ (7 : Int32).toNatClampNeg from by decide), cul_o (show (0 : Nat) ≠ (6 : Int32).toNatClampNeg from by decide), cul_o (show (0 : Nat) ≠ (5 : Int32).toNatClampNeg from by decide), cul_o (show (0 : Nat) ≠ (4 : Int32).toNatClampNeg from by decide), cul_o (show (0 : Nat) ≠ (3 : Int32).toNatClampNeg from by decide), cul_o (show (0 : Nat) ≠ (2 : Int32).toNatClampNeg from by decide), cul_o (show (0 : Nat) ≠ (1 : Int32).toNatClampNeg from by decide), cul_s (show (0 : Nat) = (0 : Int32).toNatClampNeg from by decide)]; decide); (rw [cul_o (show (1 : Nat) ≠ (9 : Int32).toNatClampNeg from by decide), cul_o (show (1 : Nat) ≠ (8 : Int32).toNatClampNeg from by decide), cul_o (show (1 : Nat) ≠ (7 : Int32).toNatClampNeg from by decide), cul_o (show (1 : Nat) ≠ (6 : Int32).toNatClampNeg from by decide), cul_o (show (1 : Nat) ≠ (5 : Int32).toNatClampNeg from by decide), cul_o (show (1 : Nat) ≠ (4 : Int32).toNatClampNeg from by decide), cul_o (show (1 : Nat) ≠ (3 : Int32).toNatClampNeg from by decide), cul_o (show (1 : Nat) ≠ (2 : Int32).toNatClampNeg from by decide), cul_s (show (1 : Nat) = (1 : Int32).toNatClampNeg from by decide)]; rw [i2l_of]; rfl); (rw [cul_o (show (2 : Nat) ≠ (9 : Int32).toNatClampNeg from by decide), cul_o (show (2 : Nat) ≠ (8 : Int32).toNatClampNeg from by decide), cul_o (show (2 : Nat) ≠ (7 : Int32).toNatClampNeg from by decide), cul_o (show (2 : Nat) ≠ (6 : Int32).toNatClampNeg from by decide), cul_o (show (2 : Nat) ≠ (5 : Int32).toNatClampNeg from by decide), cul_o (show (2 : Nat) ≠ (4 : Int32).toNatClampNeg from by decide), cul_o (show (2 : Nat) ≠ (3 : Int32).toNatClampNeg from by decide), cul_s (show (2 : Nat) = (2 : Int32).toNatClampNeg from by decide)]; rw [i2l_of]; rfl); (rw [cul_o (show (3 : Nat) ≠ (9 : Int32).toNatClampNeg from by decide), cul_o (show (3 : Nat) ≠ (8 : Int32).toNatClampNeg from by decide), cul_o (show (3 : Nat) ≠ (7 : Int32).toNatClampNeg from by decide), cul_o (show (3 : Nat) ≠ (6 : Int32).toNatClampNeg from by decide), cul_o (show (3 : Nat) ≠ (5 : Int32).toNatClampNeg from by decide), cul_o (show (3 : Nat) ≠ (4 : Int32).toNatClampNeg from by decide), cul_s (show (3 : Nat) = (3 : Int32).toNatClampNeg from by decide)]; rw [i2l_of]; rfl); (rw [cul_o (show (4 : Nat) ≠ (9 : Int32).toNatClampNeg from by decide), cul_o (show (4 : Nat) ≠ (8 : Int32).toNatClampNeg from by decide), cul_o (show (4 : Nat) ≠ (7 : Int32).toNatClampNeg from by decide), cul_o (show (4 : Nat) ≠ (6 : Int32).toNatClampNeg from by decide), cul_o (show (4 : Nat) ≠ (5 : Int32).toNatClampNeg from by decide), cul_s (show (4 : Nat) = (4 : Int32).toNatClampNeg from by decide)]; rw [i2l_of]; rfl); (rw [cul_o (show (5 : Nat) ≠ (9 : Int32).toNatClampNeg from by decide), cul_o (show (5 : Nat) ≠ (8 : Int32).toNatClampNeg from by decide), cul_o (show (5 : Nat) ≠ (7 : Int32).toNatClampNeg from by decide), cul_o (show (5 : Nat) ≠ (6 : Int32).toNatClampNeg from by decide), cul_s (show (5 : Nat) = (5 : Int32).toNatClampNeg from by decide)]; rw [i2l_of]; rfl); (rw [cul_o (show (6 : Nat) ≠ (9 : Int32).toNatClampNeg from by decide), cul_o (show (6 : Nat) ≠ (8 : Int32).toNatClampNeg from by decide), cul_o (show (6 : Nat) ≠ (7 : Int32).toNatClampNeg from by decide), cul_s (show (6 : Nat) = (6 : Int32).toNatClampNeg from by decide)]; show _ = Int64.ofInt gI9.toInt; rw [show gI9.toInt = 1 from by omega]; decide); (rw [cul_o (show (7 : Nat) ≠ (9 : Int32).toNatClampNeg from by decide), cul_o (show (7 : Nat) ≠ (8 : Int32).toNatClampNeg from by decide), cul_s (show (7 : Nat) = (7 : Int32).toNatClampNeg from by decide)]; show _ = Int64.ofInt gM9.toInt; rw [show gM9.toInt = 0 from by omega]; decide); (rw [cul_o (show (8 : Nat) ≠ (9 : Int32).toNatClampNeg from by decide), cul_s (show (8 : Nat) = (8 : Int32).toNatClampNeg from by decide)]; decide); (rw [cul_s (show (9 : Nat) = (9 : Int32).toNatClampNeg from by decide)]; rw [i2l_of]; rfl))), by (try dsimp only); rw [ht]; exact ⟨hT, hF, m272⟩⟩, hS.F ht⟩) hS.2.2 dX0_gatherFacts_131
    · have t273 : gM9.toInt ≠ 0 := ti_ne c220 rfl (by decide)
      refine lv_lconst (v := 1) hx hb dX0_gatherFacts_99 (by decide) ?_
      refine lv_goto (tgt := 104) hx hb dX0_gatherFacts_100 (by decide) ?_
      refine tw_last (i := 7)  hx hb hK hT hG hS hr_fa9 shc_56 rfl (by unfold vp_in; decide) ⟨_, rfl⟩ dX0_gatherFacts_104 (fun H locs hT oq m274 oi hS => ?_)
      have hF := hF.ast hr_fa9 skc_56 oq (by decide)
      have m275 := (el_kept (oq _ (gne hr_o0 hr_fa9 (by decide)))).trans m209
      have m276 := (el_kept (oq _ (gne hr_p0 hr_fa9 (by decide)))).trans m210
      have m284 := (el_kept (oq _ (gne hr_p0 hr_fa9 (by decide)))).trans m218
      have m285 := m219.put m274 oi
      refine lv_aload_n hx hb dX0_gatherFacts_105 rfl (lv_at hl 0 rfl) ?_
      refine tw_getM (v := .ref fa9) hx hb hts bF2_X0 hown hK hT hr_o0 shc_3 rfl 5 (by decide) (ht_at2 hts 0 rfl) (fun _ h9 => h9) m275 dX0_gatherFacts_106 ?_
      refine lv_bipush (v := 8) hx hb dX0_gatherFacts_109 (by decide) ?_
      refine lv_aload_n hx hb dX0_gatherFacts_111 rfl (lv_at hl 0 rfl) ?_
      refine lv_aload_n hx hb dX0_gatherFacts_112 rfl (lv_at hl 1 rfl) ?_
      refine lv_aload_n hx hb dX0_gatherFacts_113 rfl (lv_at hl 2 rfl) ?_
      have hFc := gA_free hG hA hS
      refine va_calli (va_runV (As := [.ref p0, .ref p1]) (rest := [.int 8, .ref fa9]) ⟨hx, hb, hml, hown, hts⟩ (c_nearOfZ l dC dI kA adK adV G H nC nS o0 p0 p1 fmv hT hr_p0 hr_p1 hr_o0 m276 (by have q8 := ti_all fmv; omega) (by omega) (by omega)) (cwV 2 hts (goodIn_app (goodIn_r _ [8, 9, 10, 6] rfl (by decide +kernel)) (goodIn_ca (goodIn_r _ [7] rfl (by decide +kernel)) (bs2_in _ _))) rfl rfl rfl (by decide +kernel) ⟨(Nat.le_of_ble_eq_true rfl), (Nat.le_of_ble_eq_true rfl)⟩) ⟨fun a U g mk q => by obtain ⟨q0, q1, qK, qE⟩ := q; exact ⟨q0, q1, va_K.moved (u := U) (U := U.calling g mk a) (Vm.Alike.refl U.vm) qK, EVC.blind g mk a qE⟩, gH_rc hK hT hr_o0 shc_3 rfl, fun U hU hW => ⟨rfl, hU, va_K.moved hW.alike hK, hE.call hS hFc hU hW⟩⟩ rfl rfl hl.1 rfl (lv_room (Nat.le_of_ble_eq_true rfl)) dX0_gatherFacts_114 ⟨(Nat.le_of_ble_eq_true rfl), (Nat.le_of_ble_eq_true rfl)⟩) hS (fun q _ h => hFc q h) hFc (fun r286 u t H locs ht hvm hw287 hB _ _ hS => ?_)
      obtain ⟨hT, hF1⟩ := hB
      rw [ht] at hT hF1
      have m288 := (hF1.fld hr_o0 skc_3 (k := 5) (by decide) (by decide)).trans m275
      have m297 := (hF1.fld hr_p0 skc_10 (k := 9) (by decide) (by decide)).trans m284
      have m298 := m285.kept (hF1.arr hr_fa9 skc_56 (by decide))
      have hF := hF.more hF1 (by decide)
      try dsimp only at hw287
      obtain ⟨h299, hd300⟩ := hw287
      obtain rfl : (99 : Int32) = r286 := hd300.symm
      refine lv_i2l (v := 99) hx hb dX0_gatherFacts_117 (by decide) ?_
      refine tw_last (i := 8)  hx hb hK hT hG hS hr_fa9 shc_56 rfl (by unfold vp_in; decide) ⟨_, rfl⟩ dX0_gatherFacts_118 (fun H locs hT oq m301 oi hS => ?_)
      have hF := hF.ast hr_fa9 skc_56 oq (by decide)
      have m302 := (el_kept (oq _ (gne hr_o0 hr_fa9 (by decide)))).trans m288
      have m311 := (el_kept (oq _ (gne hr_p0 hr_fa9 (by decide)))).trans m297
      have m312 := m298.put m301 oi
      refine lv_aload_n hx hb dX0_gatherFacts_119 rfl (lv_at hl 0 rfl) ?_
      refine tw_getM (v := .ref fa9) hx hb hts bF2_X0 hown hK hT hr_o0 shc_3 rfl 5 (by decide) (ht_at2 hts 0 rfl) (fun _ h9 => h9) m302 dX0_gatherFacts_120 ?_
      refine lv_bipush (v := 9) hx hb dX0_gatherFacts_123 (by decide) ?_
      refine lv_aload_n hx hb dX0_gatherFacts_125 rfl (lv_at hl 1 rfl) ?_
      refine tw_getNM (v := .int gW9) hx hb hts bF2_X7 hown hK hT hr_p0 shc_10 rfl 9 (by decide) (hE.nw 69 rfl) (fun _ h9 => h9) m311 dX0_gatherFacts_126 ?_
      refine lv_i2l (v := gW9.toInt64) hx hb dX0_gatherFacts_129 rfl ?_
      refine tw_last (i := 9)  hx hb hK hT hG hS hr_fa9 shc_56 rfl (by unfold vp_in; decide) ⟨_, rfl⟩ dX0_gatherFacts_130 (fun H locs hT oq m313 oi hS => ?_)
      have hF := hF.ast hr_fa9 skc_56 oq (by decide)
      have m324 := m312.put m313 oi
      exact W.vret hx hb hr (fun t ht hW => ⟨⟨(cul (cul (cul (cul (cul (cul (cul (cul (cul (cul fL (0 : Int32).toNatClampNeg (0 : Int64)) (1 : Int32).toNatClampNeg gG.toInt64) (2 : Int32).toNatClampNeg gA9.toInt64) (3 : Int32).toNatClampNeg gD9.toInt64) (4 : Int32).toNatClampNeg gC9.toInt64) (5 : Int32).toNatClampNeg gU9.toInt64) (6 : Int32).toNatClampNeg (1 : Int64)) (7 : Int32).toNatClampNeg (1 : Int64)) (8 : Int32).toNatClampNeg (99 : Int64)) (9 : Int32).toNatClampNeg gW9.toInt64), rfl, (by exact (by intro k hk; (try dsimp only); rcases (show k = 0 ∨ k = 1 ∨ k = 2 ∨ k = 3 ∨ k = 4 ∨ k = 5 ∨ k = 6 ∨ k = 7 ∨ k = 8 ∨ k = 9 by omega) with rfl | rfl | rfl | rfl | rfl | rfl | rfl | rfl | rfl | rfl; (rw [cul_o (show (0 : Nat) ≠ (9 : Int32).toNatClampNeg from by decide), cul_o (show (0 : Nat) ≠ (8 : Int32).toNatClampNeg from by decide), cul_o (show (0 : Nat) ≠ (7 : Int32).toNatClampNeg from by decide), cul_o (show (0 : Nat) ≠ (6 : Int32).toNatClampNeg from by decide), cul_o (show (0 : Nat) ≠ (5 : Int32).toNatClampNeg from by decide), cul_o (show (0 : Nat) ≠ (4 : Int32).toNatClampNeg from by decide), cul_o (show (0 : Nat) ≠ (3 : Int32).toNatClampNeg from by decide), cul_o (show (0 : Nat) ≠ (2 : Int32).toNatClampNeg from by decide), cul_o (show (0 : Nat) ≠ (1 : Int32).toNatClampNeg from by decide), cul_s (show (0 : Nat) = (0 : Int32).toNatClampNeg from by decide)]; decide); (rw [cul_o (show (1 : Nat) ≠ (9 : Int32).toNatClampNeg from by decide), cul_o (show (1 : Nat) ≠ (8 : Int32).toNatClampNeg from by decide), cul_o (show (1 : Nat) ≠ (7 : Int32).toNatClampNeg from by decide), cul_o (show (1 : Nat) ≠ (6 : Int32).toNatClampNeg from by decide), cul_o (show (1 : Nat) ≠ (5 : Int32).toNatClampNeg from by decide), cul_o (show (1 : Nat) ≠ (4 : Int32).toNatClampNeg from by decide), cul_o (show (1 : Nat) ≠ (3 : Int32).toNatClampNeg from by decide), cul_o (show (1 : Nat) ≠ (2 : Int32).toNatClampNeg from by decide), cul_s (show (1 : Nat) = (1 : Int32).toNatClampNeg from by decide)]; rw [i2l_of]; rfl); (rw [cul_o (show (2 : Nat) ≠ (9 : Int32).toNatClampNeg from by decide), cul_o (show (2 : Nat) ≠ (8 : Int32).toNatClampNeg from by decide), cul_o (show (2 : Nat) ≠ (7 : Int32).toNatClampNeg from by decide), cul_o (show (2 : Nat) ≠ (6 : Int32).toNatClampNeg from by decide), cul_o (show (2 : Nat) ≠ (5 : Int32).toNatClampNeg from by decide), cul_o (show (2 : Nat) ≠ (4 : Int32).toNatClampNeg from by decide), cul_o (show (2 : Nat) ≠ (3 : Int32).toNatClampNeg from by decide), cul_s (show (2 : Nat) = (2 : Int32).toNatClampNeg from by decide)]; rw [i2l_of]; rfl); (rw [cul_o (show (3 : Nat) ≠ (9 : Int32).toNatClampNeg from by decide), cul_o (show (3 : Nat) ≠ (8 : Int32).toNatClampNeg from by decide), cul_o (show (3 : Nat) ≠ (7 : Int32).toNatClampNeg from by decide), cul_o (show (3 : Nat) ≠ (6 : Int32).toNatClampNeg from by decide), cul_o (show (3 : Nat) ≠ (5 : Int32).toNatClampNeg from by decide), cul_o (show (3 : Nat) ≠ (4 : Int32).toNatClampNeg from by decide), cul_s (show (3 : Nat) = (3 : Int32).toNatClampNeg from by decide)]; rw [i2l_of]; rfl); (rw [cul_o (show (4 : Nat) ≠ (9 : Int32).toNatClampNeg from by decide), cul_o (show (4 : Nat) ≠ (8 : Int32).toNatClampNeg from by decide), cul_o (show (4 : Nat) ≠ (7 : Int32).toNatClampNeg from by decide), cul_o (show (4 : Nat) ≠ (6 : Int32).toNatClampNeg from by decide), cul_o (show (4 : Nat) ≠ (5 : Int32).toNatClampNeg from by decide), cul_s (show (4 : Nat) = (4 : Int32).toNatClampNeg from by decide)]; rw [i2l_of]; rfl); (rw [cul_o (show (5 : Nat) ≠ (9 : Int32).toNatClampNeg from by decide), cul_o (show (5 : Nat) ≠ (8 : Int32).toNatClampNeg from by decide), cul_o (show (5 : Nat) ≠ (7 : Int32).toNatClampNeg from by decide), cul_o (show (5 : Nat) ≠ (6 : Int32).toNatClampNeg from by decide), cul_s (show (5 : Nat) = (5 : Int32).toNatClampNeg from by decide)]; rw [i2l_of]; rfl); (rw [cul_o (show (6 : Nat) ≠ (9 : Int32).toNatClampNeg from by decide), cul_o (show (6 : Nat) ≠ (8 : Int32).toNatClampNeg from by decide), cul_o (show (6 : Nat) ≠ (7 : Int32).toNatClampNeg from by decide), cul_s (show (6 : Nat) = (6 : Int32).toNatClampNeg from by decide)]; show _ = Int64.ofInt gI9.toInt; rw [show gI9.toInt = 1 from by omega]; decide); (rw [cul_o (show (7 : Nat) ≠ (9 : Int32).toNatClampNeg from by decide), cul_o (show (7 : Nat) ≠ (8 : Int32).toNatClampNeg from by decide), cul_s (show (7 : Nat) = (7 : Int32).toNatClampNeg from by decide)]; show _ = Int64.ofInt gM9.toInt; rw [show gM9.toInt = 1 from by omega]; decide); (rw [cul_o (show (8 : Nat) ≠ (9 : Int32).toNatClampNeg from by decide), cul_s (show (8 : Nat) = (8 : Int32).toNatClampNeg from by decide)]; decide); (rw [cul_s (show (9 : Nat) = (9 : Int32).toNatClampNeg from by decide)]; rw [i2l_of]; rfl))), by (try dsimp only); rw [ht]; exact ⟨hT, hF, m324⟩⟩, hS.F ht⟩) hS.2.2 dX0_gatherFacts_131
def w_c_firstByMarkZ : List Cond := .code yX0_firstByMark cX0_firstByMark 3 (some .int) :: (HAppend.hAppend (α := List Cond) (β := List Cond) (γ := List Cond) [.fieldLink RX0 75 "SeaLand$Board" "settled" "I", .fieldLink RX0 37 "SeaLand$Board" "marks" "[I", .fieldLink RX0 11 "SeaLand$Board" "settlers" "[LSeaLand$Settler;"] bs2)
set_option maxHeartbeats 4000000 in
set_option maxRecDepth 100000 in
theorem c_firstByMarkZ (l : Launch) (dC : Nat → ClassId) (dI : Nat → Nat → Nat) (kA : Nat → ClassId) (adK adV : Nat → Nat) (G : gT) (H0 : Heap) (nC nS : Int) (o0 : Nat) (mk9 : Nat) (vM : Nat → Int32)  (hT : gH (dC, dI) kA (SHc nC nS) G H0) (hr_o0 : G o0 = some 3) (hm_mk9 : el H0 o0 (dI 3 6) = some (.ref mk9)) (hr_mk9 : G mk9 = some 57) (hc_vM : ct H0 mk9 60 vM) (hgC : 0 ≤ nC ∧ nC ≤ 40) (hgS : 0 ≤ nS ∧ nS ≤ 60) : Met l yX0_firstByMark w_c_firstByMarkZ ({ frames := 0, cells := 0, slots := 0, locals := 0 }) (va_Pc [.ref o0] (fun U => U.heap = H0 ∧ va_K (dC, dI) vwCl (tyl kA) U ∧ EVC adK adV (gA G H0.size) U U.heap)) (va_Qi (fun (r : Int32) (u : Unit) => (-1 ≤ r.toInt ∧ r.toInt ≤ 59) ∧ ((r.toInt = -1 ∧ ¬ zMk vM nS) ∨ (0 ≤ r.toInt ∧ r.toInt < nS ∧ zMk vM nS))) (fun (_ : Unit) (t : State) => gH (dC, dI) kA (SHc nC nS) G t.heap ∧ gF (dC, dI) SKc G ([] : List (Nat × Nat)) H0 t.heap) (gA G H0.size)) 0 0 (gA G H0.size) := by
  refine Met.ofW (cc := cX0_firstByMark) (maxL := 3) (ret := (some .int)) (by decide) rfl ?_
  intro p e s m args below meth c s₁ B hml hv
  obtain ⟨rfl, hH0, hK, hE⟩ := hv
  have hx := B.exec
  have hb := B.bytes
  have hr := B.returns
  have hts := atoms_spec (ws := w_c_firstByMarkZ) B.pre
  have hown : s.vm.findClass RX0 = some m.cls := findClass_of_methodNamed B.named
  have hlocks := B.notSynchronized
  subst hH0
  generalize hAe : gA G s.heap.size = A at hE ⊢
  have hA : ∀ q : Nat, s.heap.size ≤ q → A q := fun q h => by rw [← hAe]; exact Or.inr h
  have hG := gA_of hAe
  have hS : va_S A s.heap s.heap [] := va_S.rf
  have hF : gF (dC, dI) SKc G ([] : List (Nat × Nat)) s.heap s.heap := gF.rf
  have hl := lv_entry ([.ref o0]) (n := 3) (Nat.le_of_ble_eq_true rfl)
  rw [lg_entry_eq]
  generalize (lg_sl ([.ref o0]) ++ List.replicate (3 - (lg_sl ([.ref o0])).length) Slot.unset).toArray = ls at hl ⊢
  have hl : lv_has ls 3 [(0, .ref o0)] := hl
  refine lv_iconst (v := (-1)) hx hb dX0_firstByMark_0 (by decide) ?_
  refine lv_istore_n (lv' := [(1, .int (-1)), (0, .ref o0)]) hx hb dX0_firstByMark_1 rfl hl (by decide) rfl (fun ls hl => ?_)
  refine lv_iconst (v := 0) hx hb dX0_firstByMark_2 (by decide) ?_
  refine lv_istore_n (lv' := [(2, .int 0), (1, .int (-1)), (0, .ref o0)]) hx hb dX0_firstByMark_3 rfl hl (by decide) rfl (fun ls hl => ?_)
  have key55 : ∀ (n55 i1 : Nat), i1 + n55 = 60 → 0 ≤ i1 → ∀ (z2 : Int32), ((-1 ≤ z2.toInt ∧ z2.toInt ≤ 59) ∧ ((z2.toInt = -1 ∧ ∀ p : Nat, p < i1 → (vM p).toInt = -1) ∨ (0 ≤ z2.toInt ∧ z2.toInt < ((i1 : Nat) : Int) ∧ zMk vM ((i1 : Nat) : Int))) ∧ (((i1 : Nat) : Int) ≤ nS)) → ∀ (H : Heap) (locs : List Loc), gH (dC, dI) kA (SHc nC nS) G H → gF (dC, dI) SKc G ([] : List (Nat × Nat)) s.heap H → va_S A s.heap H locs → ct H mk9 60 vM → el H o0 (dI 3 6) = some (.ref mk9) → ∀ ls : Array Slot, lv_has ls 3 [(2, .int (nI i1)), (1, .int z2), (0, .ref o0)] → W p l e (headSpec w_c_firstByMarkZ ({ frames := 0, cells := 0, slots := 0, locals := 0 })).room s m #[.ref o0] below meth c H locs 0 0 (MQ below (va_Qi (fun (r : Int32) (u : Unit) => (-1 ≤ r.toInt ∧ r.toInt ≤ 59) ∧ ((r.toInt = -1 ∧ ¬ zMk vM nS) ∨ (0 ≤ r.toInt ∧ r.toInt < nS ∧ zMk vM nS))) (fun (_ : Unit) (t : State) => gH (dC, dI) kA (SHc nC nS) G t.heap ∧ gF (dC, dI) SKc G ([] : List (Nat × Nat)) s.heap t.heap) A) #[.ref o0] s 0 0 A) (F0 m 4 ls []) := by
    intro n55
    induction n55 with
    | zero =>
      intro i1 hn55 hlo56 z2 ⟨h3, hj6, hj7⟩ H locs hT hF hS m4 m5 ls hl
      obtain rfl : 60 = i1 := by omega
      refine lv_iload_n hx hb dX0_firstByMark_4 rfl (lv_at hl 0 rfl) ?_
      refine lv_aload_n hx hb dX0_firstByMark_5 rfl (lv_at hl 2 rfl) ?_
      refine tw_get hx hb hts bF2_X0 hown hK hT hr_o0 shc_3 rfl 14 (by decide) (ht_at2 hts 0 rfl) (fun _ h9 => h9) dX0_firstByMark_6 (fun v9 m57 h9 => ?_)
      obtain ⟨x58, rfl, gx58, kx58⟩ := h9 _ rfl
      refine lv_icmp_ge (tgt := 86) hx hb dX0_firstByMark_9 (by decide) (fun c59 => ?_) (fun c59 => (by exfalso; have q9 : ((60 : Nat) : Int) < x58.toInt := ti_nle c59 rfl (nI_toInt (by omega)); omega))
      have t60 : x58.toInt ≤ ((60 : Nat) : Int) := ti_le c59 rfl (nI_toInt (by omega))
      refine lv_iload_n hx hb dX0_firstByMark_86 rfl (lv_at hl 1 rfl) ?_
      exact W.iret (v := z2) hx hb hr (fun t ht hW => ⟨⟨z2, (), rfl, (by exact ⟨(by have q8 := ti_all z2; omega), (by have b9 := (show z2.toInt = z2.toInt from rfl); rcases hj6 with ⟨h8, h7⟩ | ⟨h8, h6, h7⟩; (exact Or.inl ⟨by omega, fun h5 => h5.elim (fun p hp => by have := h7 p (by have := hp.1; omega); have := hp.2; omega)⟩); exact Or.inr ⟨by omega, by omega, h7.elim (fun p hp => ⟨p, by have := hp.1; omega, hp.2⟩)⟩)⟩), by (try dsimp only); rw [ht]; exact ⟨hT, hF⟩⟩, hS.F ht⟩) hS.2.2 dX0_firstByMark_87
    | succ n55 ih55 =>
      intro i1 hn55 hlo56 z2 ⟨h3, hj6, hj7⟩ H locs hT hF hS m4 m5 ls hl
      have hlt60 : i1 < 60 := by omega
      refine lv_iload_n hx hb dX0_firstByMark_4 rfl (lv_at hl 0 rfl) ?_
      refine lv_aload_n hx hb dX0_firstByMark_5 rfl (lv_at hl 2 rfl) ?_
      refine tw_get hx hb hts bF2_X0 hown hK hT hr_o0 shc_3 rfl 14 (by decide) (ht_at2 hts 0 rfl) (fun _ h9 => h9) dX0_firstByMark_6 (fun v9 m61 h9 => ?_)
      obtain ⟨x62, rfl, gx62, kx62⟩ := h9 _ rfl
      refine lv_icmp_ge (tgt := 86) hx hb dX0_firstByMark_9 (by decide) (fun c63 => ?_) (fun c63 => ?_)
      · have t64 : x62.toInt ≤ ((i1 : Nat) : Int) := ti_le c63 rfl (nI_toInt (by omega))
        refine lv_iload_n hx hb dX0_firstByMark_86 rfl (lv_at hl 1 rfl) ?_
        exact W.iret (v := z2) hx hb hr (fun t ht hW => ⟨⟨z2, (), rfl, (by exact ⟨(by have q8 := ti_all z2; omega), (by have b9 := (show z2.toInt = z2.toInt from rfl); rcases hj6 with ⟨h8, h7⟩ | ⟨h8, h6, h7⟩; (exact Or.inl ⟨by omega, fun h5 => h5.elim (fun p hp => by have := h7 p (by have := hp.1; omega); have := hp.2; omega)⟩); exact Or.inr ⟨by omega, by omega, h7.elim (fun p hp => ⟨p, by have := hp.1; omega, hp.2⟩)⟩)⟩), by (try dsimp only); rw [ht]; exact ⟨hT, hF⟩⟩, hS.F ht⟩) hS.2.2 dX0_firstByMark_87
      · have t65 : ((i1 : Nat) : Int) < x62.toInt := ti_nle c63 rfl (nI_toInt (by omega))
        refine lv_aload_n hx hb dX0_firstByMark_12 rfl (lv_at hl 2 rfl) ?_
        refine tw_getM (v := .ref mk9) hx hb hts bF2_X0 hown hK hT hr_o0 shc_3 rfl 6 (by decide) (ht_at2 hts 1 rfl) (fun _ h9 => h9) m5 dX0_firstByMark_13 ?_
        refine lv_iload_n hx hb dX0_firstByMark_16 rfl (lv_at hl 0 rfl) ?_
        refine tw_iald (i := (nI i1)) hx hb hK hT hr_mk9 shc_57 rfl (vp_in_nI (by omega) (by decide)) dX0_firstByMark_17 (fun v9 m66 h9 => ?_)
        obtain ⟨x67, rfl, gx67, kx67⟩ := h9
        have cx67 := m4.at m66 (by have q9 := tn_of (show (nI i1).toInt = ((i1 : Nat) : Int) from (nI_toInt (by omega))) (by omega); omega)
        refine lv_iconst (v := (-1)) hx hb dX0_firstByMark_18 (by decide) ?_
        have t68 : -2147483648 ≤ x67.toInt ∧ x67.toInt ≤ 2147483647 := ti_all x67
        refine lv_icmp_eq (tgt := 80) hx hb dX0_firstByMark_19 (by decide) (fun c69 => ?_) (fun c69 => ?_)
        · have t70 : x67.toInt = (-1) := ti_eq c69 rfl (by decide)
          refine lv_iinc (v := nI (i1 + 1)) (lv' := [(2, .int (nI (i1 + 1))), (1, .int z2), (0, .ref o0)]) hx hb dX0_firstByMark_80 hl (k := 0) rfl (nI_add i1 1) (by decide) rfl (fun ls hl => ?_)
          refine lv_goto (tgt := 4) hx hb dX0_firstByMark_83 (by decide) ?_
          exact ih55 (i1 + 1) (by omega) (by omega) z2 ⟨(by have q9 := (show z2.toInt = z2.toInt from rfl); (try have q8 := ti_all z2); omega), (by have v9 : (vM i1).toInt = x67.toInt := (by rw [cx67, tn_nI (by omega)]); have b9 := (show z2.toInt = z2.toInt from rfl); rcases hj6 with ⟨h8, h7⟩ | ⟨h8, h6, h7⟩; (by_cases z9 : x67.toInt = -1; (exact Or.inl ⟨by omega, fun p hp => by by_cases e9 : p = i1; (rw [e9]; omega); exact h7 p (by omega)⟩); exact Or.inr ⟨by omega, by omega, i1, by omega, by omega⟩); exact Or.inr ⟨by omega, by omega, h7.elim (fun p hp => ⟨p, by have := hp.1; omega, hp.2⟩)⟩), (by omega)⟩ _ _ hT hF hS m4 m5 ls (lv_sub hl [0, 1, 2] rfl)
        · have t71 : x67.toInt ≠ (-1) := ti_ne c69 rfl (by decide)
          refine lv_iload_n hx hb dX0_firstByMark_22 rfl (lv_at hl 1 rfl) ?_
          refine lv_iconst (v := (-1)) hx hb dX0_firstByMark_23 (by decide) ?_
          refine lv_icmp_eq (tgt := 78) hx hb dX0_firstByMark_24 (by decide) (fun c72 => ?_) (fun c72 => ?_)
          · have t73 : z2.toInt = (-1) := ti_eq c72 rfl (by decide)
            refine lv_iload_n hx hb dX0_firstByMark_78 rfl (lv_at hl 0 rfl) ?_
            refine lv_istore_n (lv' := [(1, .int (nI i1)), (2, .int (nI i1)), (0, .ref o0)]) hx hb dX0_firstByMark_79 rfl hl (by decide) rfl (fun ls hl => ?_)
            refine lv_iinc (v := nI (i1 + 1)) (lv' := [(2, .int (nI (i1 + 1))), (1, .int (nI i1)), (0, .ref o0)]) hx hb dX0_firstByMark_80 hl (k := 1) rfl (nI_add i1 1) (by decide) rfl (fun ls hl => ?_)
            refine lv_goto (tgt := 4) hx hb dX0_firstByMark_83 (by decide) ?_
            exact ih55 (i1 + 1) (by omega) (by omega) (nI i1) ⟨(by have q9 := (show (nI i1).toInt = ((i1 : Nat) : Int) from (nI_toInt (by omega))); (try have q8 := ti_all (nI i1)); omega), (by have v9 : (vM i1).toInt = x67.toInt := (by rw [cx67, tn_nI (by omega)]); have b9 := (show (nI i1).toInt = ((i1 : Nat) : Int) from (nI_toInt (by omega))); rcases hj6 with ⟨h8, h7⟩ | ⟨h8, h6, h7⟩; (by_cases z9 : x67.toInt = -1; (exact Or.inl ⟨by omega, fun p hp => by by_cases e9 : p = i1; (rw [e9]; omega); exact h7 p (by omega)⟩); exact Or.inr ⟨by omega, by omega, i1, by omega, by omega⟩); exact Or.inr ⟨by omega, by omega, h7.elim (fun p hp => ⟨p, by have := hp.1; omega, hp.2⟩)⟩), (by omega)⟩ _ _ hT hF hS m4 m5 ls (lv_sub hl [0, 1, 2] rfl)
          · have t74 : z2.toInt ≠ (-1) := ti_ne c72 rfl (by decide)
            refine lv_aload_n hx hb dX0_firstByMark_27 rfl (lv_at hl 2 rfl) ?_
            refine tw_getM (v := .ref mk9) hx hb hts bF2_X0 hown hK hT hr_o0 shc_3 rfl 6 (by decide) (ht_at2 hts 1 rfl) (fun _ h9 => h9) m5 dX0_firstByMark_28 ?_
            refine lv_iload_n hx hb dX0_firstByMark_31 rfl (lv_at hl 0 rfl) ?_
            refine tw_iald (i := (nI i1)) hx hb hK hT hr_mk9 shc_57 rfl (vp_in_nI (by omega) (by decide)) dX0_firstByMark_32 (fun v9 m75 h9 => ?_)
            obtain ⟨x76, rfl, gx76, kx76⟩ := h9
            have cx76 := m4.at m75 (by have q9 := tn_of (show (nI i1).toInt = ((i1 : Nat) : Int) from (nI_toInt (by omega))) (by omega); omega)
            obtain rfl : x67 = x76 := (el_same m75 m66 rfl).symm
            refine lv_aload_n hx hb dX0_firstByMark_33 rfl (lv_at hl 2 rfl) ?_
            refine tw_getM (v := .ref mk9) hx hb hts bF2_X0 hown hK hT hr_o0 shc_3 rfl 6 (by decide) (ht_at2 hts 1 rfl) (fun _ h9 => h9) m5 dX0_firstByMark_34 ?_
            refine lv_iload_n hx hb dX0_firstByMark_37 rfl (lv_at hl 1 rfl) ?_
            refine tw_iald (i := z2) hx hb hK hT hr_mk9 shc_57 rfl (vin_t (a := z2.toInt) rfl (by omega) (by omega)) dX0_firstByMark_38 (fun v9 m77 h9 => ?_)
            obtain ⟨x78, rfl, gx78, kx78⟩ := h9
            have cx78 := m4.at m77 (by have q9 := tn_of (show z2.toInt = z2.toInt from rfl) (by omega); omega)
            have t79 : -2147483648 ≤ x78.toInt ∧ x78.toInt ≤ 2147483647 := ti_all x78
            refine lv_icmp_gt (tgt := 78) hx hb dX0_firstByMark_39 (by decide) (fun c80 => ?_) (fun c80 => ?_)
            · have t81 : x78.toInt < x67.toInt := ti_lt c80 rfl rfl
              refine lv_iload_n hx hb dX0_firstByMark_78 rfl (lv_at hl 0 rfl) ?_
              refine lv_istore_n (lv' := [(1, .int (nI i1)), (2, .int (nI i1)), (0, .ref o0)]) hx hb dX0_firstByMark_79 rfl hl (by decide) rfl (fun ls hl => ?_)
              refine lv_iinc (v := nI (i1 + 1)) (lv' := [(2, .int (nI (i1 + 1))), (1, .int (nI i1)), (0, .ref o0)]) hx hb dX0_firstByMark_80 hl (k := 1) rfl (nI_add i1 1) (by decide) rfl (fun ls hl => ?_)
              refine lv_goto (tgt := 4) hx hb dX0_firstByMark_83 (by decide) ?_
              exact ih55 (i1 + 1) (by omega) (by omega) (nI i1) ⟨(by have q9 := (show (nI i1).toInt = ((i1 : Nat) : Int) from (nI_toInt (by omega))); (try have q8 := ti_all (nI i1)); omega), (by have v9 : (vM i1).toInt = x67.toInt := (by rw [cx67, tn_nI (by omega)]); have b9 := (show (nI i1).toInt = ((i1 : Nat) : Int) from (nI_toInt (by omega))); rcases hj6 with ⟨h8, h7⟩ | ⟨h8, h6, h7⟩; (by_cases z9 : x67.toInt = -1; (exact Or.inl ⟨by omega, fun p hp => by by_cases e9 : p = i1; (rw [e9]; omega); exact h7 p (by omega)⟩); exact Or.inr ⟨by omega, by omega, i1, by omega, by omega⟩); exact Or.inr ⟨by omega, by omega, h7.elim (fun p hp => ⟨p, by have := hp.1; omega, hp.2⟩)⟩), (by omega)⟩ _ _ hT hF hS m4 m5 ls (lv_sub hl [0, 1, 2] rfl)
            · have t82 : x67.toInt ≤ x78.toInt := ti_nlt c80 rfl rfl
              refine lv_aload_n hx hb dX0_firstByMark_42 rfl (lv_at hl 2 rfl) ?_
              refine tw_getM (v := .ref mk9) hx hb hts bF2_X0 hown hK hT hr_o0 shc_3 rfl 6 (by decide) (ht_at2 hts 1 rfl) (fun _ h9 => h9) m5 dX0_firstByMark_43 ?_
              refine lv_iload_n hx hb dX0_firstByMark_46 rfl (lv_at hl 0 rfl) ?_
              refine tw_iald (i := (nI i1)) hx hb hK hT hr_mk9 shc_57 rfl (vp_in_nI (by omega) (by decide)) dX0_firstByMark_47 (fun v9 m83 h9 => ?_)
              obtain ⟨x84, rfl, gx84, kx84⟩ := h9
              have cx84 := m4.at m83 (by have q9 := tn_of (show (nI i1).toInt = ((i1 : Nat) : Int) from (nI_toInt (by omega))) (by omega); omega)
              obtain rfl : x67 = x84 := (el_same m83 m66 rfl).symm
              refine lv_aload_n hx hb dX0_firstByMark_48 rfl (lv_at hl 2 rfl) ?_
              refine tw_getM (v := .ref mk9) hx hb hts bF2_X0 hown hK hT hr_o0 shc_3 rfl 6 (by decide) (ht_at2 hts 1 rfl) (fun _ h9 => h9) m5 dX0_firstByMark_49 ?_
              refine lv_iload_n hx hb dX0_firstByMark_52 rfl (lv_at hl 1 rfl) ?_
              refine tw_iald (i := z2) hx hb hK hT hr_mk9 shc_57 rfl (vin_t (a := z2.toInt) rfl (by omega) (by omega)) dX0_firstByMark_53 (fun v9 m85 h9 => ?_)
              obtain ⟨x86, rfl, gx86, kx86⟩ := h9
              have cx86 := m4.at m85 (by have q9 := tn_of (show z2.toInt = z2.toInt from rfl) (by omega); omega)
              obtain rfl : x78 = x86 := (el_same m85 m77 rfl).symm
              refine lv_icmp_ne (tgt := 80) hx hb dX0_firstByMark_54 (by decide) (fun c87 => ?_) (fun c87 => ?_)
              · have t88 : x67.toInt ≠ x78.toInt := ti_ne c87 rfl rfl
                refine lv_iinc (v := nI (i1 + 1)) (lv' := [(2, .int (nI (i1 + 1))), (1, .int z2), (0, .ref o0)]) hx hb dX0_firstByMark_80 hl (k := 0) rfl (nI_add i1 1) (by decide) rfl (fun ls hl => ?_)
                refine lv_goto (tgt := 4) hx hb dX0_firstByMark_83 (by decide) ?_
                exact ih55 (i1 + 1) (by omega) (by omega) z2 ⟨(by have q9 := (show z2.toInt = z2.toInt from rfl); (try have q8 := ti_all z2); omega), (by have v9 : (vM i1).toInt = x67.toInt := (by rw [cx67, tn_nI (by omega)]); have b9 := (show z2.toInt = z2.toInt from rfl); rcases hj6 with ⟨h8, h7⟩ | ⟨h8, h6, h7⟩; (by_cases z9 : x67.toInt = -1; (exact Or.inl ⟨by omega, fun p hp => by by_cases e9 : p = i1; (rw [e9]; omega); exact h7 p (by omega)⟩); exact Or.inr ⟨by omega, by omega, i1, by omega, by omega⟩); exact Or.inr ⟨by omega, by omega, h7.elim (fun p hp => ⟨p, by have := hp.1; omega, hp.2⟩)⟩), (by omega)⟩ _ _ hT hF hS m4 m5 ls (lv_sub hl [0, 1, 2] rfl)
              · have t89 : x67.toInt = x78.toInt := ti_eq c87 rfl rfl
                refine lv_aload_n hx hb dX0_firstByMark_57 rfl (lv_at hl 2 rfl) ?_
                refine tw_get hx hb hts bF2_X0 hown hK hT hr_o0 shc_3 rfl 0 (by decide) (ht_at2 hts 2 rfl) (fun _ h9 => h9) dX0_firstByMark_58 (fun v9 m90 h9 => ?_)
                obtain ⟨b91, rfl, hg92⟩ := h9 _ rfl
                refine lv_iload_n hx hb dX0_firstByMark_61 rfl (lv_at hl 0 rfl) ?_
                refine tw_aald (i := (nI i1)) hx hb hK hT hg92 shc_51 rfl (vp_in_nI (by omega) (by decide)) dX0_firstByMark_62 (fun v9 m93 h9 => ?_)
                obtain ⟨b94, rfl, hg95⟩ := (h9.1 (by have q9 := tn_of (show (nI i1).toInt = ((i1 : Nat) : Int) from (nI_toInt (by omega))) (by omega); omega))
                refine tw_getN hx hb hts bF2_X7 hown hK hT hg95 shc_10 rfl 5 (by decide) (hE.nw 74 rfl) (fun _ h9 => h9) dX0_firstByMark_63 (fun v9 m96 h9 => ?_)
                obtain ⟨x97, rfl, gx97, kx97⟩ := h9 _ rfl
                refine lv_aload_n hx hb dX0_firstByMark_66 rfl (lv_at hl 2 rfl) ?_
                refine tw_getM (v := .ref b91) hx hb hts bF2_X0 hown hK hT hr_o0 shc_3 rfl 0 (by decide) (ht_at2 hts 2 rfl) (fun _ h9 => h9) m90 dX0_firstByMark_67 ?_
                refine lv_iload_n hx hb dX0_firstByMark_70 rfl (lv_at hl 1 rfl) ?_
                refine tw_aald (i := z2) hx hb hK hT hg92 shc_51 rfl (vin_t (a := z2.toInt) rfl (by omega) (by omega)) dX0_firstByMark_71 (fun v9 m98 h9 => ?_)
                obtain ⟨b99, rfl, hg100⟩ := (h9.1 (by have q9 := tn_of (show z2.toInt = z2.toInt from rfl) (by omega); omega))
                refine tw_getN hx hb hts bF2_X7 hown hK hT hg100 shc_10 rfl 5 (by decide) (hE.nw 74 rfl) (fun _ h9 => h9) dX0_firstByMark_72 (fun v9 m101 h9 => ?_)
                obtain ⟨x102, rfl, gx102, kx102⟩ := h9 _ rfl
                have t103 : -2147483648 ≤ x97.toInt ∧ x97.toInt ≤ 2147483647 := ti_all x97
                have t104 : -2147483648 ≤ x102.toInt ∧ x102.toInt ≤ 2147483647 := ti_all x102
                refine lv_icmp_ge (tgt := 80) hx hb dX0_firstByMark_75 (by decide) (fun c105 => ?_) (fun c105 => ?_)
                · have t106 : x102.toInt ≤ x97.toInt := ti_le c105 rfl rfl
                  refine lv_iinc (v := nI (i1 + 1)) (lv' := [(2, .int (nI (i1 + 1))), (1, .int z2), (0, .ref o0)]) hx hb dX0_firstByMark_80 hl (k := 0) rfl (nI_add i1 1) (by decide) rfl (fun ls hl => ?_)
                  refine lv_goto (tgt := 4) hx hb dX0_firstByMark_83 (by decide) ?_
                  exact ih55 (i1 + 1) (by omega) (by omega) z2 ⟨(by have q9 := (show z2.toInt = z2.toInt from rfl); (try have q8 := ti_all z2); omega), (by have v9 : (vM i1).toInt = x67.toInt := (by rw [cx67, tn_nI (by omega)]); have b9 := (show z2.toInt = z2.toInt from rfl); rcases hj6 with ⟨h8, h7⟩ | ⟨h8, h6, h7⟩; (by_cases z9 : x67.toInt = -1; (exact Or.inl ⟨by omega, fun p hp => by by_cases e9 : p = i1; (rw [e9]; omega); exact h7 p (by omega)⟩); exact Or.inr ⟨by omega, by omega, i1, by omega, by omega⟩); exact Or.inr ⟨by omega, by omega, h7.elim (fun p hp => ⟨p, by have := hp.1; omega, hp.2⟩)⟩), (by omega)⟩ _ _ hT hF hS m4 m5 ls (lv_sub hl [0, 1, 2] rfl)
                · have t107 : x97.toInt < x102.toInt := ti_nle c105 rfl rfl
                  refine lv_iload_n hx hb dX0_firstByMark_78 rfl (lv_at hl 0 rfl) ?_
                  refine lv_istore_n (lv' := [(1, .int (nI i1)), (2, .int (nI i1)), (0, .ref o0)]) hx hb dX0_firstByMark_79 rfl hl (by decide) rfl (fun ls hl => ?_)
                  refine lv_iinc (v := nI (i1 + 1)) (lv' := [(2, .int (nI (i1 + 1))), (1, .int (nI i1)), (0, .ref o0)]) hx hb dX0_firstByMark_80 hl (k := 1) rfl (nI_add i1 1) (by decide) rfl (fun ls hl => ?_)
                  refine lv_goto (tgt := 4) hx hb dX0_firstByMark_83 (by decide) ?_
                  exact ih55 (i1 + 1) (by omega) (by omega) (nI i1) ⟨(by have q9 := (show (nI i1).toInt = ((i1 : Nat) : Int) from (nI_toInt (by omega))); (try have q8 := ti_all (nI i1)); omega), (by have v9 : (vM i1).toInt = x67.toInt := (by rw [cx67, tn_nI (by omega)]); have b9 := (show (nI i1).toInt = ((i1 : Nat) : Int) from (nI_toInt (by omega))); rcases hj6 with ⟨h8, h7⟩ | ⟨h8, h6, h7⟩; (by_cases z9 : x67.toInt = -1; (exact Or.inl ⟨by omega, fun p hp => by by_cases e9 : p = i1; (rw [e9]; omega); exact h7 p (by omega)⟩); exact Or.inr ⟨by omega, by omega, i1, by omega, by omega⟩); exact Or.inr ⟨by omega, by omega, h7.elim (fun p hp => ⟨p, by have := hp.1; omega, hp.2⟩)⟩), (by omega)⟩ _ _ hT hF hS m4 m5 ls (lv_sub hl [0, 1, 2] rfl)
  exact key55 (60 - 0) 0 (by omega) (Nat.le_refl _) (-1) ⟨(by have q9 := (show (-1 : Int32).toInt = (-1) from (by decide)); (try have q8 := ti_all (-1 : Int32)); omega), (Or.inl ⟨by decide, fun p h => absurd h (Nat.not_lt_zero p)⟩), (by omega)⟩ _ _ hT hF hS hc_vM hm_mk9 ls (lv_sub hl [0, 1, 2] rfl)
def w_c_worthOfN : List Cond := .code yX0_worthOf cX0_worthOf 7 (some .int) :: (HAppend.hAppend (α := List Cond) (β := List Cond) (γ := List Cond) [.fieldLink RX0 17 "SeaLand$Board" "farmOf" "[I", .methodLink RX0 161 Lib.Math.max.name, .static Lib.Math.max.name, .initialized "java/lang/Math", .code Lib.Math.max.name Lib.Math.max.code 2 (some .int)] bs2)
set_option maxHeartbeats 4000000 in
set_option maxRecDepth 100000 in
theorem c_worthOfN (l : Launch) (dC : Nat → ClassId) (dI : Nat → Nat → Nat) (kA : Nat → ClassId) (adK adV : Nat → Nat) (G : gT) (H0 : Heap) (nC nS : Int) (o0 : Nat) (p0 : Int32) (p1 : Nat)  (hT : gH (dC, dI) kA (SHc nC nS) G H0) (hr_p1 : G p1 = some 5) (hr_o0 : G o0 = some 3) (hgC : 0 ≤ nC ∧ nC ≤ 40) (hgS : 0 ≤ nS ∧ nS ≤ 60) : Met l yX0_worthOf w_c_worthOfN ({ frames := 1, cells := 0, slots := 0, locals := 40 }) (va_Pc [.ref o0, .int p0, .ref p1] (fun U => U.heap = H0 ∧ va_K (dC, dI) vwCl (tyl kA) U ∧ EVC adK adV (gA G H0.size) U U.heap)) (va_Qi (fun (r : Int32) (u : Unit) => (0 ≤ r.toInt ∧ r.toInt ≤ 2061598656)) (fun (_ : Unit) (t : State) => gH (dC, dI) kA (SHc nC nS) G t.heap ∧ gF (dC, dI) SKc G ([] : List (Nat × Nat)) H0 t.heap) (gA G H0.size)) 0 0 (gA G H0.size) := by
  refine Met.ofW (cc := cX0_worthOf) (maxL := 7) (ret := (some .int)) (by decide) rfl ?_
  intro p e s m args below meth c s₁ B hml hv
  obtain ⟨rfl, hH0, hK, hE⟩ := hv
  have hx := B.exec
  have hb := B.bytes
  have hr := B.returns
  have hts := atoms_spec (ws := w_c_worthOfN) B.pre
  have hown : s.vm.findClass RX0 = some m.cls := findClass_of_methodNamed B.named
  have hlocks := B.notSynchronized
  subst hH0
  generalize hAe : gA G s.heap.size = A at hE ⊢
  have hA : ∀ q : Nat, s.heap.size ≤ q → A q := fun q h => by rw [← hAe]; exact Or.inr h
  have hG := gA_of hAe
  have hS : va_S A s.heap s.heap [] := va_S.rf
  have hF : gF (dC, dI) SKc G ([] : List (Nat × Nat)) s.heap s.heap := gF.rf
  have hl := lv_entry ([.ref o0, .int p0, .ref p1]) (n := 7) (Nat.le_of_ble_eq_true rfl)
  rw [lg_entry_eq]
  generalize (lg_sl ([.ref o0, .int p0, .ref p1]) ++ List.replicate (7 - (lg_sl ([.ref o0, .int p0, .ref p1])).length) Slot.unset).toArray = ls at hl ⊢
  have hl : lv_has ls 7 [(0, .ref o0), (1, .int p0), (2, .ref p1)] := hl
  refine lv_iconst (v := 0) hx hb dX0_worthOf_0 (by decide) ?_
  refine lv_istore_n (lv' := [(3, .int 0), (0, .ref o0), (1, .int p0), (2, .ref p1)]) hx hb dX0_worthOf_1 rfl hl (by decide) rfl (fun ls hl => ?_)
  refine lv_iconst (v := 0) hx hb dX0_worthOf_2 (by decide) ?_
  refine lv_istore (lv' := [(4, .int 0), (3, .int 0), (0, .ref o0), (1, .int p0), (2, .ref p1)]) hx hb dX0_worthOf_3 hl (by decide) rfl (fun ls hl => ?_)
  have key54 : ∀ (n54 i1 : Nat), i1 + n54 = 96 → 0 ≤ i1 → ∀ (z2 : Int32), ((0 ≤ z2.toInt ∧ z2.toInt ≤ 2061598656) ∧ (z2.toInt ≤ 21474986 * ((i1 : Nat) : Int))) → ∀ (H : Heap) (locs : List Loc), gH (dC, dI) kA (SHc nC nS) G H → gF (dC, dI) SKc G ([] : List (Nat × Nat)) s.heap H → va_S A s.heap H locs → ∀ ls : Array Slot, lv_has ls 7 [(4, .int (nI i1)), (3, .int z2), (0, .ref o0), (1, .int p0), (2, .ref p1)] → W p l e (headSpec w_c_worthOfN ({ frames := 1, cells := 0, slots := 0, locals := 40 })).room s m #[.ref o0, .int p0, .ref p1] below meth c H locs 0 0 (MQ below (va_Qi (fun (r : Int32) (u : Unit) => (0 ≤ r.toInt ∧ r.toInt ≤ 2061598656)) (fun (_ : Unit) (t : State) => gH (dC, dI) kA (SHc nC nS) G t.heap ∧ gF (dC, dI) SKc G ([] : List (Nat × Nat)) s.heap t.heap) A) #[.ref o0, .int p0, .ref p1] s 0 0 A) (F0 m 5 ls []) := by
    intro n54
    induction n54 with
    | zero =>
      intro i1 hn54 hlo55 z2 ⟨h3, hj4⟩ H locs hT hF hS  ls hl
      obtain rfl : 96 = i1 := by omega
      refine lv_iload hx hb dX0_worthOf_5 (lv_at hl 0 rfl) ?_
      refine lv_bipush (v := 96) hx hb dX0_worthOf_7 (by decide) ?_
      refine lv_icmp_ge (tgt := 84) hx hb dX0_worthOf_9 (by decide) (fun c56 => ?_) (fun c56 => (by exfalso; have q9 : ((96 : Nat) : Int) < 96 := ti_nle c56 (by decide) (nI_toInt (by omega)); omega))
      have t57 : 96 ≤ ((96 : Nat) : Int) := ti_le c56 (by decide) (nI_toInt (by omega))
      refine lv_iload_n hx hb dX0_worthOf_84 rfl (lv_at hl 1 rfl) ?_
      exact W.iret (v := z2) hx hb hr (fun t ht hW => ⟨⟨z2, (), rfl, (by exact (by have q8 := ti_all z2; omega)), by (try dsimp only); rw [ht]; exact ⟨hT, hF⟩⟩, hS.F ht⟩) hS.2.2 dX0_worthOf_85
    | succ n54 ih54 =>
      intro i1 hn54 hlo55 z2 ⟨h3, hj4⟩ H locs hT hF hS  ls hl
      have hlt57 : i1 < 96 := by omega
      refine lv_iload hx hb dX0_worthOf_5 (lv_at hl 0 rfl) ?_
      refine lv_bipush (v := 96) hx hb dX0_worthOf_7 (by decide) ?_
      refine lv_icmp_ge (tgt := 84) hx hb dX0_worthOf_9 (by decide) (fun c58 => (by exfalso; have q9 : 96 ≤ ((i1 : Nat) : Int) := ti_le c58 (by decide) (nI_toInt (by omega)); omega)) (fun c58 => ?_)
      have t59 : ((i1 : Nat) : Int) < 96 := ti_nle c58 (by decide) (nI_toInt (by omega))
      refine lv_aload_n hx hb dX0_worthOf_12 rfl (lv_at hl 2 rfl) ?_
      refine tw_get hx hb hts bF2_X0 hown hK hT hr_o0 shc_3 rfl 1 (by decide) (ht_at2 hts 0 rfl) (fun _ h9 => h9) dX0_worthOf_13 (fun v9 m60 h9 => ?_)
      obtain ⟨b61, rfl, hg62⟩ := h9 _ rfl
      refine lv_iload hx hb dX0_worthOf_16 (lv_at hl 0 rfl) ?_
      refine tw_iald (i := (nI i1)) hx hb hK hT hg62 shc_52 rfl (vp_in_nI (by omega) (by decide)) dX0_worthOf_18 (fun v9 m63 h9 => ?_)
      obtain ⟨x64, rfl, gx64, kx64⟩ := h9
      refine lv_iload_n hx hb dX0_worthOf_19 rfl (lv_at hl 3 rfl) ?_
      have t65 : -2147483648 ≤ x64.toInt ∧ x64.toInt ≤ 2147483647 := ti_all x64
      have t66 : -2147483648 ≤ p0.toInt ∧ p0.toInt ≤ 2147483647 := ti_all p0
      refine lv_icmp_ne (tgt := 78) hx hb dX0_worthOf_20 (by decide) (fun c67 => ?_) (fun c67 => ?_)
      · have t68 : x64.toInt ≠ p0.toInt := ti_ne c67 rfl rfl
        refine lv_iinc (v := nI (i1 + 1)) (lv' := [(4, .int (nI (i1 + 1))), (3, .int z2), (0, .ref o0), (1, .int p0), (2, .ref p1)]) hx hb dX0_worthOf_78 hl (k := 0) rfl (nI_add i1 1) (by decide) rfl (fun ls hl => ?_)
        refine lv_goto (tgt := 5) hx hb dX0_worthOf_81 (by decide) ?_
        exact ih54 (i1 + 1) (by omega) (by omega) z2 ⟨(by have q9 := (show z2.toInt = z2.toInt from rfl); (try have q8 := ti_all z2); omega), (by have := (show z2.toInt = z2.toInt from rfl); omega)⟩ _ _ hT hF hS ls (lv_sub hl [0, 1, 2, 3, 4] rfl)
      · have t69 : x64.toInt = p0.toInt := ti_eq c67 rfl rfl
        refine lv_aload_n hx hb dX0_worthOf_23 rfl (lv_at hl 4 rfl) ?_
        refine tw_getN hx hb hts bF2_X2 hown hK hT hr_p1 shc_5 rfl 2 (by decide) (hE.nw 71 rfl) (fun _ h9 => h9) dX0_worthOf_24 (fun v9 m70 h9 => ?_)
        obtain ⟨b71, rfl, hg72⟩ := h9 _ rfl
        refine lv_iload hx hb dX0_worthOf_27 (lv_at hl 0 rfl) ?_
        refine tw_iald (i := (nI i1)) hx hb hK hT hg72 shc_27 rfl (vp_in_nI (by omega) (by decide)) dX0_worthOf_29 (fun v9 m73 h9 => ?_)
        obtain ⟨x74, rfl, gx74, kx74⟩ := h9
        refine lv_istore (lv' := [(5, .int x74), (4, .int (nI i1)), (3, .int z2), (0, .ref o0), (1, .int p0), (2, .ref p1)]) hx hb dX0_worthOf_30 hl (by decide) rfl (fun ls hl => ?_)
        refine lv_iload hx hb dX0_worthOf_32 (lv_at hl 0 rfl) ?_
        have jn85 : ∀ (z79 : Int32), ((60 ≤ z79.toInt ∧ z79.toInt ≤ 150)) → ∀ (H : Heap) (locs : List Loc), gH (dC, dI) kA (SHc nC nS) G H → gF (dC, dI) SKc G ([] : List (Nat × Nat)) s.heap H → va_S A s.heap H locs → el H o0 (dI 3 1) = some (.ref b61) → el H b61 (nI i1).toNatClampNeg = some (.int x64) → el H p1 (dI 5 2) = some (.ref b71) → el H b71 (nI i1).toNatClampNeg = some (.int x74) → ∀ ls : Array Slot, lv_has ls 7 [(5, .int x74), (4, .int (nI i1)), (3, .int z2), (0, .ref o0), (1, .int p0), (2, .ref p1)] → W p l e (headSpec w_c_worthOfN ({ frames := 1, cells := 0, slots := 0, locals := 40 })).room s m #[.ref o0, .int p0, .ref p1] below meth c H locs 0 0 (MQ below (va_Qi (fun (r : Int32) (u : Unit) => (0 ≤ r.toInt ∧ r.toInt ≤ 2061598656)) (fun (_ : Unit) (t : State) => gH (dC, dI) kA (SHc nC nS) G t.heap ∧ gF (dC, dI) SKc G ([] : List (Nat × Nat)) s.heap t.heap) A) #[.ref o0, .int p0, .ref p1] s 0 0 A) (F0 m 56 ls [.int z79]) := by
          intro z79 h80 H locs hT hF hS m81 m82 m83 m84 ls hl
          refine lv_istore (lv' := [(6, .int z79), (5, .int x74), (4, .int (nI i1)), (3, .int z2), (0, .ref o0), (1, .int p0), (2, .ref p1)]) hx hb dX0_worthOf_56 hl (by decide) rfl (fun ls hl => ?_)
          refine lv_iload_n hx hb dX0_worthOf_58 rfl (lv_at hl 3 rfl) ?_
          refine lv_iconst (v := 0) hx hb dX0_worthOf_59 (by decide) ?_
          refine lv_iload hx hb dX0_worthOf_60 (lv_at hl 0 rfl) ?_
          refine lv_aload_n hx hb dX0_worthOf_62 rfl (lv_at hl 6 rfl) ?_
          refine tw_getN hx hb hts bF2_X2 hown hK hT hr_p1 shc_5 rfl 5 (by decide) (hE.nw 72 rfl) (fun _ h9 => h9) dX0_worthOf_63 (fun v9 m86 h9 => ?_)
          obtain ⟨b87, rfl, hg88⟩ := h9 _ rfl
          refine lv_iload hx hb dX0_worthOf_66 (lv_at hl 2 rfl) ?_
          refine tw_iald (i := (nI i1)) hx hb hK hT hg88 shc_30 rfl (vp_in_nI (by omega) (by decide)) dX0_worthOf_68 (fun v9 m89 h9 => ?_)
          obtain ⟨x90, rfl, gx90, kx90⟩ := h9
          refine lv_bipush (v := 100) hx hb dX0_worthOf_69 (by decide) ?_
          have t91 : -2147483648 ≤ x90.toInt ∧ x90.toInt ≤ 2147483647 := ti_all x90
          refine lv_idiv hx hb dX0_worthOf_71 (by decide) ?_
          refine lv_topi (fun x92 ex92 => ?_)
          have t93 : (0 ≤ x90.toInt ∧ x92.toInt = x90.toInt / 100) ∨ (x90.toInt < 0 ∧ x92.toInt = -((-x90.toInt) / 100)) := ti_divs ex92 rfl (by decide) (by decide)
          refine lv_isub hx hb dX0_worthOf_72 ?_
          refine lv_topi (fun x94 ex94 => ?_)
          have t95 : x94.toInt = z79.toInt - x92.toInt := ti_sub ex94 rfl rfl (by omega) (by omega)
          refine va_mmax hx hb (hml.trans hl.1.symm) hown (ht_at2 hts 1 rfl) (ht_at2 hts 2 rfl) (ht_at2 hts 3 rfl) (ht_at2 hts 4 rfl) (Nat.le_of_ble_eq_true rfl) (Nat.le_of_ble_eq_true rfl) (Nat.le_of_ble_eq_true rfl) (Nat.le_of_ble_eq_true rfl) dX0_worthOf_73 ?_
          refine lv_topi (fun x96 ex96 => ?_)
          have t97 : 0 ≤ x96.toInt ∧ x94.toInt ≤ x96.toInt ∧ (x96.toInt = 0 ∨ x96.toInt = x94.toInt) := mx_f ex96 (by decide) rfl
          refine lv_iadd hx hb dX0_worthOf_76 ?_
          refine lv_topi (fun x98 ex98 => ?_)
          have t99 : x98.toInt = z2.toInt + x96.toInt := ti_add ex98 rfl rfl (by omega) (by omega)
          refine lv_istore_n (lv' := [(3, .int x98), (6, .int z79), (5, .int x74), (4, .int (nI i1)), (0, .ref o0), (1, .int p0), (2, .ref p1)]) hx hb dX0_worthOf_77 rfl hl (by decide) rfl (fun ls hl => ?_)
          refine lv_iinc (v := nI (i1 + 1)) (lv' := [(4, .int (nI (i1 + 1))), (3, .int x98), (6, .int z79), (5, .int x74), (0, .ref o0), (1, .int p0), (2, .ref p1)]) hx hb dX0_worthOf_78 hl (k := 3) rfl (nI_add i1 1) (by decide) rfl (fun ls hl => ?_)
          refine lv_goto (tgt := 5) hx hb dX0_worthOf_81 (by decide) ?_
          exact ih54 (i1 + 1) (by omega) (by omega) x98 ⟨(by have q9 := (show x98.toInt = x98.toInt from rfl); (try have q8 := ti_all x98); omega), (by have := (show x98.toInt = x98.toInt from rfl); omega)⟩ _ _ hT hF hS ls (lv_sub hl [0, 1, 4, 5, 6] rfl)
        have t100 : -2147483648 ≤ x74.toInt ∧ x74.toInt ≤ 2147483647 := ti_all x74
        refine lv_if_ne (tgt := 42) hx hb dX0_worthOf_34 (by decide) (fun c101 => ?_) (fun c101 => ?_)
        · have t102 : x74.toInt ≠ 0 := ti_ne c101 rfl (by decide)
          refine lv_iload hx hb dX0_worthOf_42 (lv_at hl 0 rfl) ?_
          refine lv_iconst (v := 1) hx hb dX0_worthOf_44 (by decide) ?_
          refine lv_icmp_ne (tgt := 54) hx hb dX0_worthOf_45 (by decide) (fun c103 => ?_) (fun c103 => ?_)
          · have t104 : x74.toInt ≠ 1 := ti_ne c103 rfl (by decide)
            refine lv_bipush (v := 60) hx hb dX0_worthOf_54 (by decide) ?_
            exact jn85 60 (rg_t (a := 60) (by decide) (by first | decide | omega) (by first | decide | omega)) _ _ hT hF hS m60 m63 m70 m73 ls (lv_sub hl [0, 1, 2, 3, 4, 5] rfl)
          · have t105 : x74.toInt = 1 := ti_eq c103 rfl (by decide)
            refine lv_sipush (v := 150) hx hb dX0_worthOf_48 (by decide) ?_
            refine lv_goto (tgt := 56) hx hb dX0_worthOf_51 (by decide) ?_
            exact jn85 150 (rg_t (a := 150) (by decide) (by first | decide | omega) (by first | decide | omega)) _ _ hT hF hS m60 m63 m70 m73 ls (lv_sub hl [0, 1, 2, 3, 4, 5] rfl)
        · have t106 : x74.toInt = 0 := ti_eq c101 rfl (by decide)
          refine lv_bipush (v := 100) hx hb dX0_worthOf_37 (by decide) ?_
          refine lv_goto (tgt := 56) hx hb dX0_worthOf_39 (by decide) ?_
          exact jn85 100 (rg_t (a := 100) (by decide) (by first | decide | omega) (by first | decide | omega)) _ _ hT hF hS m60 m63 m70 m73 ls (lv_sub hl [0, 1, 2, 3, 4, 5] rfl)
  exact key54 (96 - 0) 0 (by omega) (Nat.le_refl _) 0 ⟨(by have q9 := (show (0 : Int32).toInt = 0 from (by decide)); (try have q8 := ti_all (0 : Int32)); omega), (by have := (show (0 : Int32).toInt = 0 from (by decide)); omega)⟩ _ _ hT hF hS ls (lv_sub hl [0, 1, 2, 3, 4] rfl)
def w_c_bestFreeFarmZ : List Cond := .code yX0_bestFreeFarm cX0_bestFreeFarm 6 (some .int) :: (HAppend.hAppend (α := List Cond) (β := List Cond) (γ := List Cond) [.fieldLink RX0 143 "SeaLand$Board" "farms" "I", .fieldLink RX0 24 "SeaLand$Board" "held" "[Z", .code yX0_worthOf cX0_worthOf 7 (some .int), .fieldLink RX0 17 "SeaLand$Board" "farmOf" "[I", .methodLink RX0 161 Lib.Math.max.name, .static Lib.Math.max.name, .initialized "java/lang/Math", .code Lib.Math.max.name Lib.Math.max.code 2 (some .int), .methodLink RX0 191 yX0_worthOf, .instanceMethod yX0_worthOf, .selects RX0 yX0_worthOf yX0_worthOf, .initialized RX0] bs2)
set_option maxHeartbeats 4000000 in
set_option maxRecDepth 100000 in
theorem c_bestFreeFarmZ (l : Launch) (dC : Nat → ClassId) (dI : Nat → Nat → Nat) (kA : Nat → ClassId) (adK adV : Nat → Nat) (G : gT) (H0 : Heap) (nC nS : Int) (o0 : Nat) (p0 : Nat) (hd9 : Nat) (fm : Int32) (vh : Nat → Int32)  (hT : gH (dC, dI) kA (SHc nC nS) G H0) (hr_p0 : G p0 = some 5) (hr_o0 : G o0 = some 3) (hm_hd9 : el H0 o0 (dI 3 3) = some (.ref hd9)) (hr_hd9 : G hd9 = some 54) (hm_fm : el H0 o0 (dI 3 16) = some (.int fm)) (hq0 : 0 ≤ fm.toInt ∧ fm.toInt ≤ 30) (hnh : ∀ f : Nat, f < 30 → (vh f).toInt = 0) (hc_vh : ct H0 hd9 30 vh) (hgC : 0 ≤ nC ∧ nC ≤ 40) (hgS : 0 ≤ nS ∧ nS ≤ 60) : Met l yX0_bestFreeFarm w_c_bestFreeFarmZ ({ frames := 2, cells := 0, slots := 0, locals := 66 }) (va_Pc [.ref o0, .ref p0] (fun U => U.heap = H0 ∧ va_K (dC, dI) vwCl (tyl kA) U ∧ EVC adK adV (gA G H0.size) U U.heap)) (va_Qi (fun (r : Int32) (u : Unit) => (-1 ≤ r.toInt ∧ r.toInt ≤ 29) ∧ ((fm.toInt = 0 ∧ r.toInt = -1) ∨ (0 < fm.toInt ∧ 0 ≤ r.toInt))) (fun (_ : Unit) (t : State) => gH (dC, dI) kA (SHc nC nS) G t.heap ∧ gF (dC, dI) SKc G ([] : List (Nat × Nat)) H0 t.heap) (gA G H0.size)) 0 0 (gA G H0.size) := by
  refine Met.ofW (cc := cX0_bestFreeFarm) (maxL := 6) (ret := (some .int)) (by decide) rfl ?_
  intro p e s m args below meth c s₁ B hml hv
  obtain ⟨rfl, hH0, hK, hE⟩ := hv
  have hx := B.exec
  have hb := B.bytes
  have hr := B.returns
  have hts := atoms_spec (ws := w_c_bestFreeFarmZ) B.pre
  have hown : s.vm.findClass RX0 = some m.cls := findClass_of_methodNamed B.named
  have hlocks := B.notSynchronized
  subst hH0
  generalize hAe : gA G s.heap.size = A at hE ⊢
  have hA : ∀ q : Nat, s.heap.size ≤ q → A q := fun q h => by rw [← hAe]; exact Or.inr h
  have hG := gA_of hAe
  have hS : va_S A s.heap s.heap [] := va_S.rf
  have hF : gF (dC, dI) SKc G ([] : List (Nat × Nat)) s.heap s.heap := gF.rf
  have hl := lv_entry ([.ref o0, .ref p0]) (n := 6) (Nat.le_of_ble_eq_true rfl)
  rw [lg_entry_eq]
  generalize (lg_sl ([.ref o0, .ref p0]) ++ List.replicate (6 - (lg_sl ([.ref o0, .ref p0])).length) Slot.unset).toArray = ls at hl ⊢
  have hl : lv_has ls 6 [(0, .ref o0), (1, .ref p0)] := hl
  refine lv_iconst (v := (-1)) hx hb dX0_bestFreeFarm_0 (by decide) ?_
  refine lv_istore_n (lv' := [(2, .int (-1)), (0, .ref o0), (1, .ref p0)]) hx hb dX0_bestFreeFarm_1 rfl hl (by decide) rfl (fun ls hl => ?_)
  refine lv_iconst (v := (-1)) hx hb dX0_bestFreeFarm_2 (by decide) ?_
  refine lv_istore_n (lv' := [(3, .int (-1)), (2, .int (-1)), (0, .ref o0), (1, .ref p0)]) hx hb dX0_bestFreeFarm_3 rfl hl (by decide) rfl (fun ls hl => ?_)
  refine lv_iconst (v := 0) hx hb dX0_bestFreeFarm_4 (by decide) ?_
  refine lv_istore (lv' := [(4, .int 0), (3, .int (-1)), (2, .int (-1)), (0, .ref o0), (1, .ref p0)]) hx hb dX0_bestFreeFarm_5 hl (by decide) rfl (fun ls hl => ?_)
  have key29 : ∀ (n29 i1 : Nat), i1 + n29 = 30 → 0 ≤ i1 → ∀ (z2 : Int32), ∀ (z4 : Int32), ((-1 ≤ z2.toInt ∧ z2.toInt ≤ 2061598656) ∧ (-1 ≤ z4.toInt ∧ z4.toInt ≤ 29) ∧ ((((i1 : Nat) : Int) = 0 ∧ z4.toInt = -1 ∧ z2.toInt = -1) ∨ (1 ≤ ((i1 : Nat) : Int) ∧ 0 ≤ z4.toInt ∧ 0 ≤ z2.toInt)) ∧ (((i1 : Nat) : Int) ≤ fm.toInt)) → ∀ (H : Heap) (locs : List Loc), gH (dC, dI) kA (SHc nC nS) G H → gF (dC, dI) SKc G ([] : List (Nat × Nat)) s.heap H → va_S A s.heap H locs → ct H hd9 30 vh → el H o0 (dI 3 3) = some (.ref hd9) → el H o0 (dI 3 16) = some (.int fm) → ∀ ls : Array Slot, lv_has ls 6 [(4, .int (nI i1)), (3, .int z2), (2, .int z4), (0, .ref o0), (1, .ref p0)] → W p l e (headSpec w_c_bestFreeFarmZ ({ frames := 2, cells := 0, slots := 0, locals := 66 })).room s m #[.ref o0, .ref p0] below meth c H locs 0 0 (MQ below (va_Qi (fun (r : Int32) (u : Unit) => (-1 ≤ r.toInt ∧ r.toInt ≤ 29) ∧ ((fm.toInt = 0 ∧ r.toInt = -1) ∨ (0 < fm.toInt ∧ 0 ≤ r.toInt))) (fun (_ : Unit) (t : State) => gH (dC, dI) kA (SHc nC nS) G t.heap ∧ gF (dC, dI) SKc G ([] : List (Nat × Nat)) s.heap t.heap) A) #[.ref o0, .ref p0] s 0 0 A) (F0 m 7 ls []) := by
    intro n29
    induction n29 with
    | zero =>
      intro i1 hn29 hlo30 z2 z4 ⟨h3, h5, hj9, hj10⟩ H locs hT hF hS m6 m7 m8 ls hl
      obtain rfl : 30 = i1 := by omega
      refine lv_iload hx hb dX0_bestFreeFarm_7 (lv_at hl 0 rfl) ?_
      refine lv_aload_n hx hb dX0_bestFreeFarm_9 rfl (lv_at hl 3 rfl) ?_
      refine tw_getM (v := .int fm) hx hb hts bF2_X0 hown hK hT hr_o0 shc_3 rfl 16 (by decide) (ht_at2 hts 0 rfl) (fun _ h9 => h9) m8 dX0_bestFreeFarm_10 ?_
      refine lv_icmp_ge (tgt := 57) hx hb dX0_bestFreeFarm_13 (by decide) (fun c31 => ?_) (fun c31 => (by exfalso; have q9 : ((30 : Nat) : Int) < fm.toInt := ti_nle c31 rfl (nI_toInt (by omega)); omega))
      have t32 : fm.toInt ≤ ((30 : Nat) : Int) := ti_le c31 rfl (nI_toInt (by omega))
      refine lv_iload_n hx hb dX0_bestFreeFarm_57 rfl (lv_at hl 2 rfl) ?_
      exact W.iret (v := z4) hx hb hr (fun t ht hW => ⟨⟨z4, (), rfl, (by exact ⟨(by have q8 := ti_all z4; omega), (by omega)⟩), by (try dsimp only); rw [ht]; exact ⟨hT, hF⟩⟩, hS.F ht⟩) hS.2.2 dX0_bestFreeFarm_58
    | succ n29 ih29 =>
      intro i1 hn29 hlo30 z2 z4 ⟨h3, h5, hj9, hj10⟩ H locs hT hF hS m6 m7 m8 ls hl
      have hlt32 : i1 < 30 := by omega
      refine lv_iload hx hb dX0_bestFreeFarm_7 (lv_at hl 0 rfl) ?_
      refine lv_aload_n hx hb dX0_bestFreeFarm_9 rfl (lv_at hl 3 rfl) ?_
      refine tw_getM (v := .int fm) hx hb hts bF2_X0 hown hK hT hr_o0 shc_3 rfl 16 (by decide) (ht_at2 hts 0 rfl) (fun _ h9 => h9) m8 dX0_bestFreeFarm_10 ?_
      refine lv_icmp_ge (tgt := 57) hx hb dX0_bestFreeFarm_13 (by decide) (fun c33 => ?_) (fun c33 => ?_)
      · have t34 : fm.toInt ≤ ((i1 : Nat) : Int) := ti_le c33 rfl (nI_toInt (by omega))
        refine lv_iload_n hx hb dX0_bestFreeFarm_57 rfl (lv_at hl 2 rfl) ?_
        exact W.iret (v := z4) hx hb hr (fun t ht hW => ⟨⟨z4, (), rfl, (by exact ⟨(by have q8 := ti_all z4; omega), (by omega)⟩), by (try dsimp only); rw [ht]; exact ⟨hT, hF⟩⟩, hS.F ht⟩) hS.2.2 dX0_bestFreeFarm_58
      · have t35 : ((i1 : Nat) : Int) < fm.toInt := ti_nle c33 rfl (nI_toInt (by omega))
        refine lv_aload_n hx hb dX0_bestFreeFarm_16 rfl (lv_at hl 3 rfl) ?_
        refine tw_getM (v := .ref hd9) hx hb hts bF2_X0 hown hK hT hr_o0 shc_3 rfl 3 (by decide) (ht_at2 hts 1 rfl) (fun _ h9 => h9) m7 dX0_bestFreeFarm_17 ?_
        refine lv_iload hx hb dX0_bestFreeFarm_20 (lv_at hl 0 rfl) ?_
        refine tw_zald (i := (nI i1)) hx hb hK hT hr_hd9 shc_54 rfl (vp_in_nI (by omega) (by decide)) dX0_bestFreeFarm_22 (fun v9 m36 h9 => ?_)
        obtain ⟨x37, rfl, gx37, kx37⟩ := h9
        have cx37 := m6.at m36 (by have q9 := tn_of (show (nI i1).toInt = ((i1 : Nat) : Int) from (nI_toInt (by omega))) (by omega); omega)
        have t38 : x37.toInt = 0 := (by rw [cx37, tn_nI (by omega)]; exact hnh i1 (by omega))
        refine lv_if_eq (tgt := 30) hx hb dX0_bestFreeFarm_23 (by decide) (fun c39 => ?_) (fun c39 => (by exfalso; have q9 : x37.toInt ≠ 0 := ti_ne c39 rfl (by decide); omega))
        have t40 : x37.toInt = 0 := ti_eq c39 rfl (by decide)
        refine lv_aload_n hx hb dX0_bestFreeFarm_30 rfl (lv_at hl 3 rfl) ?_
        refine lv_iload hx hb dX0_bestFreeFarm_31 (lv_at hl 0 rfl) ?_
        refine lv_aload_n hx hb dX0_bestFreeFarm_33 rfl (lv_at hl 4 rfl) ?_
        have hFc := gA_free hG hA hS
        refine va_calli (va_runV (As := [.int (nI i1), .ref p0]) (rest := []) ⟨hx, hb, hml, hown, hts⟩ (c_worthOfN l dC dI kA adK adV G H nC nS o0 (nI i1) p0 hT hr_p0 hr_o0 (by omega) (by omega)) (cwV 2 hts (goodIn_app (goodIn_r _ [9, 10, 11, 12] rfl (by decide +kernel)) (goodIn_ca (goodIn_r _ [3, 4, 5, 6, 7, 8] rfl (by decide +kernel)) (bs2_in _ _))) rfl rfl rfl (by decide +kernel) ⟨(Nat.le_of_ble_eq_true rfl), (Nat.le_of_ble_eq_true rfl)⟩) ⟨fun a U g mk q => by obtain ⟨q0, q1, qK, qE⟩ := q; exact ⟨q0, q1, va_K.moved (u := U) (U := U.calling g mk a) (Vm.Alike.refl U.vm) qK, EVC.blind g mk a qE⟩, gH_rc hK hT hr_o0 shc_3 rfl, fun U hU hW => ⟨rfl, hU, va_K.moved hW.alike hK, hE.call hS hFc hU hW⟩⟩ rfl rfl hl.1 rfl (lv_room (Nat.le_of_ble_eq_true rfl)) dX0_bestFreeFarm_34 ⟨(Nat.le_of_ble_eq_true rfl), (Nat.le_of_ble_eq_true rfl)⟩) hS (fun q _ h => hFc q h) hFc (fun r41 u t H locs ht hvm hw42 hB _ _ hS => ?_)
        obtain ⟨hT, hF1⟩ := hB
        rw [ht] at hT hF1
        have m43 := m6.kept (hF1.arr hr_hd9 skc_54 (by decide))
        have m44 := (hF1.fld hr_o0 skc_3 (k := 3) (by decide) (by decide)).trans m7
        have m45 := (hF1.fld hr_o0 skc_3 (k := 16) (by decide) (by decide)).trans m8
        have hF := hF.more hF1 (by decide)
        try dsimp only at hw42
        have h47 := hw42
        refine lv_istore (lv' := [(5, .int r41), (4, .int (nI i1)), (3, .int z2), (2, .int z4), (0, .ref o0), (1, .ref p0)]) hx hb dX0_bestFreeFarm_37 hl (by decide) rfl (fun ls hl => ?_)
        refine lv_iload hx hb dX0_bestFreeFarm_39 (lv_at hl 0 rfl) ?_
        refine lv_iload_n hx hb dX0_bestFreeFarm_41 rfl (lv_at hl 2 rfl) ?_
        refine lv_icmp_le (tgt := 51) hx hb dX0_bestFreeFarm_42 (by decide) (fun c48 => ?_) (fun c48 => ?_)
        · have t49 : r41.toInt ≤ z2.toInt := ti_le c48 rfl rfl
          refine lv_iinc (v := nI (i1 + 1)) (lv' := [(4, .int (nI (i1 + 1))), (5, .int r41), (3, .int z2), (2, .int z4), (0, .ref o0), (1, .ref p0)]) hx hb dX0_bestFreeFarm_51 hl (k := 1) rfl (nI_add i1 1) (by decide) rfl (fun ls hl => ?_)
          refine lv_goto (tgt := 7) hx hb dX0_bestFreeFarm_54 (by decide) ?_
          exact ih29 (i1 + 1) (by omega) (by omega) z2 z4 ⟨(by have q9 := (show z2.toInt = z2.toInt from rfl); (try have q8 := ti_all z2); omega), (by have q9 := (show z4.toInt = z4.toInt from rfl); (try have q8 := ti_all z4); omega), (by have b9 := (show z4.toInt = z4.toInt from rfl); have m9 := (show z2.toInt = z2.toInt from rfl); omega), (by omega)⟩ _ _ hT hF hS m43 m44 m45 ls (lv_sub hl [0, 2, 3, 4, 5] rfl)
        · have t50 : z2.toInt < r41.toInt := ti_nle c48 rfl rfl
          refine lv_iload hx hb dX0_bestFreeFarm_45 (lv_at hl 0 rfl) ?_
          refine lv_istore_n (lv' := [(3, .int r41), (5, .int r41), (4, .int (nI i1)), (2, .int z4), (0, .ref o0), (1, .ref p0)]) hx hb dX0_bestFreeFarm_47 rfl hl (by decide) rfl (fun ls hl => ?_)
          refine lv_iload hx hb dX0_bestFreeFarm_48 (lv_at hl 2 rfl) ?_
          refine lv_istore_n (lv' := [(2, .int (nI i1)), (3, .int r41), (5, .int r41), (4, .int (nI i1)), (0, .ref o0), (1, .ref p0)]) hx hb dX0_bestFreeFarm_50 rfl hl (by decide) rfl (fun ls hl => ?_)
          refine lv_iinc (v := nI (i1 + 1)) (lv' := [(4, .int (nI (i1 + 1))), (2, .int (nI i1)), (3, .int r41), (5, .int r41), (0, .ref o0), (1, .ref p0)]) hx hb dX0_bestFreeFarm_51 hl (k := 3) rfl (nI_add i1 1) (by decide) rfl (fun ls hl => ?_)
          refine lv_goto (tgt := 7) hx hb dX0_bestFreeFarm_54 (by decide) ?_
          exact ih29 (i1 + 1) (by omega) (by omega) r41 (nI i1) ⟨(by have q9 := (show r41.toInt = r41.toInt from rfl); (try have q8 := ti_all r41); omega), (by have q9 := (show (nI i1).toInt = ((i1 : Nat) : Int) from (nI_toInt (by omega))); (try have q8 := ti_all (nI i1)); omega), (by have b9 := (show (nI i1).toInt = ((i1 : Nat) : Int) from (nI_toInt (by omega))); have m9 := (show r41.toInt = r41.toInt from rfl); omega), (by omega)⟩ _ _ hT hF hS m43 m44 m45 ls (lv_sub hl [0, 2, 1, 4, 5] rfl)
  exact key29 (30 - 0) 0 (by omega) (Nat.le_refl _) (-1) (-1) ⟨(by have q9 := (show (-1 : Int32).toInt = (-1) from (by decide)); (try have q8 := ti_all (-1 : Int32)); omega), (by have q9 := (show (-1 : Int32).toInt = (-1) from (by decide)); (try have q8 := ti_all (-1 : Int32)); omega), (by have b9 := (show (-1 : Int32).toInt = (-1) from (by decide)); have m9 := (show (-1 : Int32).toInt = (-1) from (by decide)); omega), (by omega)⟩ _ _ hT hF hS hc_vh hm_hd9 hm_fm ls (lv_sub hl [0, 1, 2, 3, 4] rfl)
def w_c_bestFreeFarmH : List Cond := .code yX0_bestFreeFarm cX0_bestFreeFarm 6 (some .int) :: (HAppend.hAppend (α := List Cond) (β := List Cond) (γ := List Cond) [.fieldLink RX0 143 "SeaLand$Board" "farms" "I", .fieldLink RX0 24 "SeaLand$Board" "held" "[Z", .code yX0_worthOf cX0_worthOf 7 (some .int), .fieldLink RX0 17 "SeaLand$Board" "farmOf" "[I", .methodLink RX0 161 Lib.Math.max.name, .static Lib.Math.max.name, .initialized "java/lang/Math", .code Lib.Math.max.name Lib.Math.max.code 2 (some .int), .methodLink RX0 191 yX0_worthOf, .instanceMethod yX0_worthOf, .selects RX0 yX0_worthOf yX0_worthOf, .initialized RX0] bs2)
set_option maxHeartbeats 4000000 in
set_option maxRecDepth 100000 in
theorem c_bestFreeFarmH (l : Launch) (dC : Nat → ClassId) (dI : Nat → Nat → Nat) (kA : Nat → ClassId) (adK adV : Nat → Nat) (G : gT) (H0 : Heap) (nC nS : Int) (o0 : Nat) (p0 : Nat) (hd9 : Nat) (vh : Nat → Int32)  (hT : gH (dC, dI) kA (SHc nC nS) G H0) (hr_p0 : G p0 = some 5) (hr_o0 : G o0 = some 3) (hm_hd9 : el H0 o0 (dI 3 3) = some (.ref hd9)) (hr_hd9 : G hd9 = some 54) (hc_vh : ct H0 hd9 30 vh) (hgC : 0 ≤ nC ∧ nC ≤ 40) (hgS : 0 ≤ nS ∧ nS ≤ 60) : Met l yX0_bestFreeFarm w_c_bestFreeFarmH ({ frames := 2, cells := 0, slots := 0, locals := 66 }) (va_Pc [.ref o0, .ref p0] (fun U => U.heap = H0 ∧ va_K (dC, dI) vwCl (tyl kA) U ∧ EVC adK adV (gA G H0.size) U U.heap)) (va_Qi (fun (r : Int32) (u : Unit) => (-1 ≤ r.toInt ∧ r.toInt ≤ 29) ∧ (r.toInt = -1 ∨ (0 ≤ r.toInt ∧ r.toInt < 30 ∧ (vh r.toNatClampNeg).toInt = 0))) (fun (_ : Unit) (t : State) => gH (dC, dI) kA (SHc nC nS) G t.heap ∧ gF (dC, dI) SKc G ([] : List (Nat × Nat)) H0 t.heap) (gA G H0.size)) 0 0 (gA G H0.size) := by
  refine Met.ofW (cc := cX0_bestFreeFarm) (maxL := 6) (ret := (some .int)) (by decide) rfl ?_
  intro p e s m args below meth c s₁ B hml hv
  obtain ⟨rfl, hH0, hK, hE⟩ := hv
  have hx := B.exec
  have hb := B.bytes
  have hr := B.returns
  have hts := atoms_spec (ws := w_c_bestFreeFarmH) B.pre
  have hown : s.vm.findClass RX0 = some m.cls := findClass_of_methodNamed B.named
  have hlocks := B.notSynchronized
  subst hH0
  generalize hAe : gA G s.heap.size = A at hE ⊢
  have hA : ∀ q : Nat, s.heap.size ≤ q → A q := fun q h => by rw [← hAe]; exact Or.inr h
  have hG := gA_of hAe
  have hS : va_S A s.heap s.heap [] := va_S.rf
  have hF : gF (dC, dI) SKc G ([] : List (Nat × Nat)) s.heap s.heap := gF.rf
  have hl := lv_entry ([.ref o0, .ref p0]) (n := 6) (Nat.le_of_ble_eq_true rfl)
  rw [lg_entry_eq]
  generalize (lg_sl ([.ref o0, .ref p0]) ++ List.replicate (6 - (lg_sl ([.ref o0, .ref p0])).length) Slot.unset).toArray = ls at hl ⊢
  have hl : lv_has ls 6 [(0, .ref o0), (1, .ref p0)] := hl
  refine lv_iconst (v := (-1)) hx hb dX0_bestFreeFarm_0 (by decide) ?_
  refine lv_istore_n (lv' := [(2, .int (-1)), (0, .ref o0), (1, .ref p0)]) hx hb dX0_bestFreeFarm_1 rfl hl (by decide) rfl (fun ls hl => ?_)
  refine lv_iconst (v := (-1)) hx hb dX0_bestFreeFarm_2 (by decide) ?_
  refine lv_istore_n (lv' := [(3, .int (-1)), (2, .int (-1)), (0, .ref o0), (1, .ref p0)]) hx hb dX0_bestFreeFarm_3 rfl hl (by decide) rfl (fun ls hl => ?_)
  refine lv_iconst (v := 0) hx hb dX0_bestFreeFarm_4 (by decide) ?_
  refine lv_istore (lv' := [(4, .int 0), (3, .int (-1)), (2, .int (-1)), (0, .ref o0), (1, .ref p0)]) hx hb dX0_bestFreeFarm_5 hl (by decide) rfl (fun ls hl => ?_)
  have key32 : ∀ (n32 i1 : Nat), i1 + n32 = 30 → 0 ≤ i1 → ∀ (z2 : Int32), ∀ (z4 : Int32), ((-1 ≤ z2.toInt ∧ z2.toInt ≤ 2061598656) ∧ (-1 ≤ z4.toInt ∧ z4.toInt ≤ 29) ∧ (z4.toInt = -1 ∨ (0 ≤ z4.toInt ∧ z4.toInt < 30 ∧ (vh z4.toNatClampNeg).toInt = 0)) ∧ (-1 ≤ z2.toInt)) → ∀ (H : Heap) (locs : List Loc), gH (dC, dI) kA (SHc nC nS) G H → gF (dC, dI) SKc G ([] : List (Nat × Nat)) s.heap H → va_S A s.heap H locs → ct H hd9 30 vh → el H o0 (dI 3 3) = some (.ref hd9) → ∀ ls : Array Slot, lv_has ls 6 [(4, .int (nI i1)), (3, .int z2), (2, .int z4), (0, .ref o0), (1, .ref p0)] → W p l e (headSpec w_c_bestFreeFarmH ({ frames := 2, cells := 0, slots := 0, locals := 66 })).room s m #[.ref o0, .ref p0] below meth c H locs 0 0 (MQ below (va_Qi (fun (r : Int32) (u : Unit) => (-1 ≤ r.toInt ∧ r.toInt ≤ 29) ∧ (r.toInt = -1 ∨ (0 ≤ r.toInt ∧ r.toInt < 30 ∧ (vh r.toNatClampNeg).toInt = 0))) (fun (_ : Unit) (t : State) => gH (dC, dI) kA (SHc nC nS) G t.heap ∧ gF (dC, dI) SKc G ([] : List (Nat × Nat)) s.heap t.heap) A) #[.ref o0, .ref p0] s 0 0 A) (F0 m 7 ls []) := by
    intro n32
    induction n32 with
    | zero =>
      intro i1 hn32 hlo33 z2 z4 ⟨h3, h5, hj8, hj9⟩ H locs hT hF hS m6 m7 ls hl
      obtain rfl : 30 = i1 := by omega
      refine lv_iload hx hb dX0_bestFreeFarm_7 (lv_at hl 0 rfl) ?_
      refine lv_aload_n hx hb dX0_bestFreeFarm_9 rfl (lv_at hl 3 rfl) ?_
      refine tw_get hx hb hts bF2_X0 hown hK hT hr_o0 shc_3 rfl 16 (by decide) (ht_at2 hts 0 rfl) (fun _ h9 => h9) dX0_bestFreeFarm_10 (fun v9 m34 h9 => ?_)
      obtain ⟨x35, rfl, gx35, kx35⟩ := h9 _ rfl
      refine lv_icmp_ge (tgt := 57) hx hb dX0_bestFreeFarm_13 (by decide) (fun c36 => ?_) (fun c36 => (by exfalso; have q9 : ((30 : Nat) : Int) < x35.toInt := ti_nle c36 rfl (nI_toInt (by omega)); omega))
      have t37 : x35.toInt ≤ ((30 : Nat) : Int) := ti_le c36 rfl (nI_toInt (by omega))
      refine lv_iload_n hx hb dX0_bestFreeFarm_57 rfl (lv_at hl 2 rfl) ?_
      exact W.iret (v := z4) hx hb hr (fun t ht hW => ⟨⟨z4, (), rfl, (by exact ⟨(by have q8 := ti_all z4; omega), hj8⟩), by (try dsimp only); rw [ht]; exact ⟨hT, hF⟩⟩, hS.F ht⟩) hS.2.2 dX0_bestFreeFarm_58
    | succ n32 ih32 =>
      intro i1 hn32 hlo33 z2 z4 ⟨h3, h5, hj8, hj9⟩ H locs hT hF hS m6 m7 ls hl
      have hlt37 : i1 < 30 := by omega
      refine lv_iload hx hb dX0_bestFreeFarm_7 (lv_at hl 0 rfl) ?_
      refine lv_aload_n hx hb dX0_bestFreeFarm_9 rfl (lv_at hl 3 rfl) ?_
      refine tw_get hx hb hts bF2_X0 hown hK hT hr_o0 shc_3 rfl 16 (by decide) (ht_at2 hts 0 rfl) (fun _ h9 => h9) dX0_bestFreeFarm_10 (fun v9 m38 h9 => ?_)
      obtain ⟨x39, rfl, gx39, kx39⟩ := h9 _ rfl
      refine lv_icmp_ge (tgt := 57) hx hb dX0_bestFreeFarm_13 (by decide) (fun c40 => ?_) (fun c40 => ?_)
      · have t41 : x39.toInt ≤ ((i1 : Nat) : Int) := ti_le c40 rfl (nI_toInt (by omega))
        refine lv_iload_n hx hb dX0_bestFreeFarm_57 rfl (lv_at hl 2 rfl) ?_
        exact W.iret (v := z4) hx hb hr (fun t ht hW => ⟨⟨z4, (), rfl, (by exact ⟨(by have q8 := ti_all z4; omega), hj8⟩), by (try dsimp only); rw [ht]; exact ⟨hT, hF⟩⟩, hS.F ht⟩) hS.2.2 dX0_bestFreeFarm_58
      · have t42 : ((i1 : Nat) : Int) < x39.toInt := ti_nle c40 rfl (nI_toInt (by omega))
        refine lv_aload_n hx hb dX0_bestFreeFarm_16 rfl (lv_at hl 3 rfl) ?_
        refine tw_getM (v := .ref hd9) hx hb hts bF2_X0 hown hK hT hr_o0 shc_3 rfl 3 (by decide) (ht_at2 hts 1 rfl) (fun _ h9 => h9) m7 dX0_bestFreeFarm_17 ?_
        refine lv_iload hx hb dX0_bestFreeFarm_20 (lv_at hl 0 rfl) ?_
        refine tw_zald (i := (nI i1)) hx hb hK hT hr_hd9 shc_54 rfl (vp_in_nI (by omega) (by decide)) dX0_bestFreeFarm_22 (fun v9 m43 h9 => ?_)
        obtain ⟨x44, rfl, gx44, kx44⟩ := h9
        have cx44 := m6.at m43 (by have q9 := tn_of (show (nI i1).toInt = ((i1 : Nat) : Int) from (nI_toInt (by omega))) (by omega); omega)
        refine lv_if_eq (tgt := 30) hx hb dX0_bestFreeFarm_23 (by decide) (fun c45 => ?_) (fun c45 => ?_)
        · have t46 : x44.toInt = 0 := ti_eq c45 rfl (by decide)
          refine lv_aload_n hx hb dX0_bestFreeFarm_30 rfl (lv_at hl 3 rfl) ?_
          refine lv_iload hx hb dX0_bestFreeFarm_31 (lv_at hl 0 rfl) ?_
          refine lv_aload_n hx hb dX0_bestFreeFarm_33 rfl (lv_at hl 4 rfl) ?_
          have hFc := gA_free hG hA hS
          refine va_calli (va_runV (As := [.int (nI i1), .ref p0]) (rest := []) ⟨hx, hb, hml, hown, hts⟩ (c_worthOfN l dC dI kA adK adV G H nC nS o0 (nI i1) p0 hT hr_p0 hr_o0 (by omega) (by omega)) (cwV 2 hts (goodIn_app (goodIn_r _ [9, 10, 11, 12] rfl (by decide +kernel)) (goodIn_ca (goodIn_r _ [3, 4, 5, 6, 7, 8] rfl (by decide +kernel)) (bs2_in _ _))) rfl rfl rfl (by decide +kernel) ⟨(Nat.le_of_ble_eq_true rfl), (Nat.le_of_ble_eq_true rfl)⟩) ⟨fun a U g mk q => by obtain ⟨q0, q1, qK, qE⟩ := q; exact ⟨q0, q1, va_K.moved (u := U) (U := U.calling g mk a) (Vm.Alike.refl U.vm) qK, EVC.blind g mk a qE⟩, gH_rc hK hT hr_o0 shc_3 rfl, fun U hU hW => ⟨rfl, hU, va_K.moved hW.alike hK, hE.call hS hFc hU hW⟩⟩ rfl rfl hl.1 rfl (lv_room (Nat.le_of_ble_eq_true rfl)) dX0_bestFreeFarm_34 ⟨(Nat.le_of_ble_eq_true rfl), (Nat.le_of_ble_eq_true rfl)⟩) hS (fun q _ h => hFc q h) hFc (fun r47 u t H locs ht hvm hw48 hB _ _ hS => ?_)
          obtain ⟨hT, hF1⟩ := hB
          rw [ht] at hT hF1
          have m49 := m6.kept (hF1.arr hr_hd9 skc_54 (by decide))
          have m50 := (hF1.fld hr_o0 skc_3 (k := 3) (by decide) (by decide)).trans m7
          have hF := hF.more hF1 (by decide)
          try dsimp only at hw48
          have h53 := hw48
          refine lv_istore (lv' := [(5, .int r47), (4, .int (nI i1)), (3, .int z2), (2, .int z4), (0, .ref o0), (1, .ref p0)]) hx hb dX0_bestFreeFarm_37 hl (by decide) rfl (fun ls hl => ?_)
          refine lv_iload hx hb dX0_bestFreeFarm_39 (lv_at hl 0 rfl) ?_
          refine lv_iload_n hx hb dX0_bestFreeFarm_41 rfl (lv_at hl 2 rfl) ?_
          refine lv_icmp_le (tgt := 51) hx hb dX0_bestFreeFarm_42 (by decide) (fun c54 => ?_) (fun c54 => ?_)
          · have t55 : r47.toInt ≤ z2.toInt := ti_le c54 rfl rfl
            refine lv_iinc (v := nI (i1 + 1)) (lv' := [(4, .int (nI (i1 + 1))), (5, .int r47), (3, .int z2), (2, .int z4), (0, .ref o0), (1, .ref p0)]) hx hb dX0_bestFreeFarm_51 hl (k := 1) rfl (nI_add i1 1) (by decide) rfl (fun ls hl => ?_)
            refine lv_goto (tgt := 7) hx hb dX0_bestFreeFarm_54 (by decide) ?_
            exact ih32 (i1 + 1) (by omega) (by omega) z2 z4 ⟨(by have q9 := (show z2.toInt = z2.toInt from rfl); (try have q8 := ti_all z2); omega), (by have q9 := (show z4.toInt = z4.toInt from rfl); (try have q8 := ti_all z4); omega), hj8, (by have m9 := (show z2.toInt = z2.toInt from rfl); omega)⟩ _ _ hT hF hS m49 m50 ls (lv_sub hl [0, 2, 3, 4, 5] rfl)
          · have t56 : z2.toInt < r47.toInt := ti_nle c54 rfl rfl
            refine lv_iload hx hb dX0_bestFreeFarm_45 (lv_at hl 0 rfl) ?_
            refine lv_istore_n (lv' := [(3, .int r47), (5, .int r47), (4, .int (nI i1)), (2, .int z4), (0, .ref o0), (1, .ref p0)]) hx hb dX0_bestFreeFarm_47 rfl hl (by decide) rfl (fun ls hl => ?_)
            refine lv_iload hx hb dX0_bestFreeFarm_48 (lv_at hl 2 rfl) ?_
            refine lv_istore_n (lv' := [(2, .int (nI i1)), (3, .int r47), (5, .int r47), (4, .int (nI i1)), (0, .ref o0), (1, .ref p0)]) hx hb dX0_bestFreeFarm_50 rfl hl (by decide) rfl (fun ls hl => ?_)
            refine lv_iinc (v := nI (i1 + 1)) (lv' := [(4, .int (nI (i1 + 1))), (2, .int (nI i1)), (3, .int r47), (5, .int r47), (0, .ref o0), (1, .ref p0)]) hx hb dX0_bestFreeFarm_51 hl (k := 3) rfl (nI_add i1 1) (by decide) rfl (fun ls hl => ?_)
            refine lv_goto (tgt := 7) hx hb dX0_bestFreeFarm_54 (by decide) ?_
            exact ih32 (i1 + 1) (by omega) (by omega) r47 (nI i1) ⟨(by have q9 := (show r47.toInt = r47.toInt from rfl); (try have q8 := ti_all r47); omega), (by have q9 := (show (nI i1).toInt = ((i1 : Nat) : Int) from (nI_toInt (by omega))); (try have q8 := ti_all (nI i1)); omega), (Or.inr ⟨by have := (show (nI i1).toInt = ((i1 : Nat) : Int) from (nI_toInt (by omega))); omega, by have := (show (nI i1).toInt = ((i1 : Nat) : Int) from (nI_toInt (by omega))); omega, by rw [tn_nI (by omega)]; have v9 : (vh i1).toInt = x44.toInt := (by rw [cx44, tn_nI (by omega)]); omega⟩), (by have m9 := (show r47.toInt = r47.toInt from rfl); omega)⟩ _ _ hT hF hS m49 m50 ls (lv_sub hl [0, 2, 1, 4, 5] rfl)
        · have t57 : x44.toInt ≠ 0 := ti_ne c45 rfl (by decide)
          refine lv_iconst (v := (-1)) hx hb dX0_bestFreeFarm_26 (by decide) ?_
          refine lv_goto (tgt := 37) hx hb dX0_bestFreeFarm_27 (by decide) ?_
          refine lv_istore (lv' := [(5, .int (-1)), (4, .int (nI i1)), (3, .int z2), (2, .int z4), (0, .ref o0), (1, .ref p0)]) hx hb dX0_bestFreeFarm_37 hl (by decide) rfl (fun ls hl => ?_)
          refine lv_iload hx hb dX0_bestFreeFarm_39 (lv_at hl 0 rfl) ?_
          refine lv_iload_n hx hb dX0_bestFreeFarm_41 rfl (lv_at hl 2 rfl) ?_
          refine lv_icmp_le (tgt := 51) hx hb dX0_bestFreeFarm_42 (by decide) (fun c58 => ?_) (fun c58 => (by exfalso; have q9 : z2.toInt < (-1) := ti_nle c58 (by decide) rfl; omega))
          have t59 : (-1) ≤ z2.toInt := ti_le c58 (by decide) rfl
          refine lv_iinc (v := nI (i1 + 1)) (lv' := [(4, .int (nI (i1 + 1))), (5, .int (-1)), (3, .int z2), (2, .int z4), (0, .ref o0), (1, .ref p0)]) hx hb dX0_bestFreeFarm_51 hl (k := 1) rfl (nI_add i1 1) (by decide) rfl (fun ls hl => ?_)
          refine lv_goto (tgt := 7) hx hb dX0_bestFreeFarm_54 (by decide) ?_
          exact ih32 (i1 + 1) (by omega) (by omega) z2 z4 ⟨(by have q9 := (show z2.toInt = z2.toInt from rfl); (try have q8 := ti_all z2); omega), (by have q9 := (show z4.toInt = z4.toInt from rfl); (try have q8 := ti_all z4); omega), hj8, (by have m9 := (show z2.toInt = z2.toInt from rfl); omega)⟩ _ _ hT hF hS m6 m7 ls (lv_sub hl [0, 2, 3, 4, 5] rfl)
  exact key32 (30 - 0) 0 (by omega) (Nat.le_refl _) (-1) (-1) ⟨(by have q9 := (show (-1 : Int32).toInt = (-1) from (by decide)); (try have q8 := ti_all (-1 : Int32)); omega), (by have q9 := (show (-1 : Int32).toInt = (-1) from (by decide)); (try have q8 := ti_all (-1 : Int32)); omega), (Or.inl (by decide)), (by have m9 := (show (-1 : Int32).toInt = (-1) from (by decide)); omega)⟩ _ _ hT hF hS hc_vh hm_hd9 ls (lv_sub hl [0, 1, 2, 3, 4] rfl)
def w_c_giveFarmsZ : List Cond := .code yX0_giveFarms cX0_giveFarms 7 (some .int) :: (HAppend.hAppend (α := List Cond) (β := List Cond) (γ := List Cond) [.fieldLink RX0 75 "SeaLand$Board" "settled" "I", .fieldLink RX0 185 "SeaLand$Board" "holding" "I", .code yX0_firstByMark cX0_firstByMark 3 (some .int), .fieldLink RX0 37 "SeaLand$Board" "marks" "[I", .fieldLink RX0 11 "SeaLand$Board" "settlers" "[LSeaLand$Settler;", .methodLink RX0 173 yX0_firstByMark, .instanceMethod yX0_firstByMark, .selects RX0 yX0_firstByMark yX0_firstByMark, .initialized RX0, .code yX0_bestFreeFarm cX0_bestFreeFarm 6 (some .int), .fieldLink RX0 143 "SeaLand$Board" "farms" "I", .fieldLink RX0 24 "SeaLand$Board" "held" "[Z", .code yX0_worthOf cX0_worthOf 7 (some .int), .fieldLink RX0 17 "SeaLand$Board" "farmOf" "[I", .methodLink RX0 161 Lib.Math.max.name, .static Lib.Math.max.name, .initialized "java/lang/Math", .code Lib.Math.max.name Lib.Math.max.code 2 (some .int), .methodLink RX0 191 yX0_worthOf, .instanceMethod yX0_worthOf, .selects RX0 yX0_worthOf yX0_worthOf, .methodLink RX0 181 yX0_bestFreeFarm, .instanceMethod yX0_bestFreeFarm, .selects RX0 yX0_bestFreeFarm yX0_bestFreeFarm, .code yX0_gatherFacts cX0_gatherFacts 3 none, .fieldLink RX0 33 "SeaLand$Board" "facts" "[J", .code yX0_acresOf cX0_acresOf 4 (some .int), .methodLink RX0 98 yX0_acresOf, .instanceMethod yX0_acresOf, .selects RX0 yX0_acresOf yX0_acresOf, .code yX0_nearOf cX0_nearOf 5 (some .int), .methodLink RX0 123 yX0_nearOf, .instanceMethod yX0_nearOf, .selects RX0 yX0_nearOf yX0_nearOf, .methodLink RX0 84 yX0_gatherFacts, .instanceMethod yX0_gatherFacts, .selects RX0 yX0_gatherFacts yX0_gatherFacts, .code yX0_isRuled cX0_isRuled 2 (some .boolean), .fieldLink RX0 41 "SeaLand$Board" "force" "LSeaLand$Law;", .code yX4_firstThatHolds cX4_firstThatHolds 4 (some .int), .fieldLink RX4 60 "SeaLand$Law" "lines" "I", .fieldLink RX4 18 "SeaLand$Law" "kinds" "[I", .code yX4_lineHolds cX4_lineHolds 6 (some .boolean), .fieldLink RX4 33 "SeaLand$Law" "stepFrom" "[I", .fieldLink RX4 36 "SeaLand$Law" "stepTo" "[I", .fieldLink RX4 39 "SeaLand$Law" "steps" "[I", .fieldLink RX4 42 "SeaLand$Law" "stack" "[J", .code yX4_joined cX4_joined 5 (some .long), .methodLink RX4 199 Lib.MathLoose.max_long.x, .static Lib.MathLoose.max_long.x, .code Lib.MathLoose.max_long.x Lib.MathLoose.max_long.code 4 (some .long), .methodLink RX4 195 yX4_joined, .static yX4_joined, .initialized RX4, .methodLink RX4 203 yX4_lineHolds, .instanceMethod yX4_lineHolds, .selects RX4 yX4_lineHolds yX4_lineHolds, .methodLink RX0 134 yX4_firstThatHolds, .instanceMethod yX4_firstThatHolds, .selects RX4 yX4_firstThatHolds yX4_firstThatHolds, .methodLink RX0 169 yX0_isRuled, .instanceMethod yX0_isRuled, .selects RX0 yX0_isRuled yX0_isRuled, .code yX0_ruled cX0_ruled 2 (some .int), .code yX4_sumThatHolds cX4_sumThatHolds 6 (some .long), .fieldLink RX4 21 "SeaLand$Law" "firsts" "[I", .methodLink RX0 130 yX4_sumThatHolds, .instanceMethod yX4_sumThatHolds, .selects RX4 yX4_sumThatHolds yX4_sumThatHolds, .methodLink RX0 88 yX0_ruled, .instanceMethod yX0_ruled, .selects RX0 yX0_ruled yX0_ruled] bs2)
set_option maxHeartbeats 4000000 in
set_option maxRecDepth 100000 in
theorem c_giveFarmsZ (l : Launch) (dC : Nat → ClassId) (dI : Nat → Nat → Nat) (kA : Nat → ClassId) (adK adV : Nat → Nat) (G : gT) (H0 : Heap) (nC nS : Int) (o0 : Nat) (p0 : Int32) (p1 : Nat) (mk9 : Nat) (hd9 : Nat) (sA : Nat) (fm : Int32) (fa9 : Nat) (hl : Int32) (lw : Nat) (kn : Nat) (ln : Int32) (sf : Nat) (sto : Nat) (stp9 : Nat) (stk : Nat) (vM0 : Nat → Int32) (vh : Nat → Int32) (vK : Nat → Int32) (vF : Nat → Int32) (vT : Nat → Int32) (vS : Nat → Int32) (vQ : Nat → Int64) (fL : Nat → Int64) (A9 : zAl) (vA vD vC vU vI vW : Nat → Int32) (hT : gH (dC, dI) kA (SHc nC nS) G H0) (hr_p1 : G p1 = some 6) (hr_o0 : G o0 = some 3) (hm_mk9 : el H0 o0 (dI 3 6) = some (.ref mk9)) (hr_mk9 : G mk9 = some 57) (hm_hd9 : el H0 o0 (dI 3 3) = some (.ref hd9)) (hr_hd9 : G hd9 = some 54) (hm_sA : el H0 o0 (dI 3 0) = some (.ref sA)) (hr_sA : G sA = some 51) (hm_fm : el H0 o0 (dI 3 16) = some (.int fm)) (hm_fa9 : el H0 o0 (dI 3 5) = some (.ref fa9)) (hr_fa9 : G fa9 = some 56) (hm_hl : el H0 o0 (dI 3 15) = some (.int hl)) (hm_lw : el H0 o0 (dI 3 7) = some (.ref lw)) (hr_lw : G lw = some 7) (hm_kn : el H0 lw (dI 7 2) = some (.ref kn)) (hr_kn : G kn = some 42) (hm_ln : el H0 lw (dI 7 11) = some (.int ln)) (hm_sf : el H0 lw (dI 7 7) = some (.ref sf)) (hr_sf : G sf = some 47) (hm_sto : el H0 lw (dI 7 8) = some (.ref sto)) (hr_sto : G sto = some 48) (hm_stp9 : el H0 lw (dI 7 9) = some (.ref stp9)) (hr_stp9 : G stp9 = some 49) (hm_stk : el H0 lw (dI 7 10) = some (.ref stk)) (hr_stk : G stk = some 50) (hq0 : 0 ≤ p0.toInt ∧ p0.toInt ≤ 60) (hq1 : 0 ≤ fm.toInt ∧ fm.toInt ≤ 30) (hq2 : 0 ≤ hl.toInt ∧ hl.toInt ≤ 0) (hq3 : 0 ≤ ln.toInt ∧ ln.toInt ≤ 20) (hnh : ∀ f : Nat, f < 30 → (vh f).toInt = 0) (hct : zct vh 30 = 0) (hFS : ∀ i : Nat, ((i : Nat) : Int) < nS → ∀ a : Nat, el H0 sA i = some (.ref a) → zSf dI H0 a (vA i) (vD i) (vC i) (vU i) (vI i) (vW i)) (hrp : zRp A9 vK vF vT (tz vS) 400) (hzk : ∀ e ∈ A9, zok e.2) (hln : ((A9.length : Nat) : Int) = ln.toInt) (hc_vM0 : ct H0 mk9 60 vM0) (hc_vh : ct H0 hd9 30 vh) (hc_vK : ct H0 kn 20 vK) (hc_vF : ct H0 sf 20 vF) (hc_vT : ct H0 sto 20 vT) (hc_vS : ct H0 stp9 400 vS) (hc_vQ : ctl H0 stk 20 vQ) (hc_fL : ctl H0 fa9 10 fL) (hgC : 0 ≤ nC ∧ nC ≤ 40) (hgS : 0 ≤ nS ∧ nS ≤ 60) : Met l yX0_giveFarms w_c_giveFarmsZ ({ frames := 5, cells := 0, slots := 0, locals := 135 }) (va_Pc [.ref o0, .int p0, .ref p1] (fun U => U.heap = H0 ∧ va_K (dC, dI) vwCl (tyl kA) U ∧ EVC adK adV (gA G H0.size) U U.heap)) (va_Qi (fun (r : Int32) (u : Int32 × (Nat → Int32)) => match u with | (hl1, vh1) => (0 ≤ r.toInt ∧ r.toInt ≤ 60) ∧ ((0 < r.toInt ∧ ((1 ≤ p0.toInt ∧ p0.toInt ≤ 60) ∧ 0 < fm.toInt ∧ zNO (zLs (fun _ => 0) vA vD vC vU vI vW (fun _ => 0)) A9 nS)) ∨ (r.toInt = 0 ∧ ¬ ((1 ≤ p0.toInt ∧ p0.toInt ≤ 60) ∧ 0 < fm.toInt ∧ zNO (zLs (fun _ => 0) vA vD vC vU vI vW (fun _ => 0)) A9 nS) ∧ vh = vh1)) ∧ (hl1.toInt = r.toInt ∧ zct vh1 30 = hl1.toInt)) (fun (u : Int32 × (Nat → Int32)) (t : State) => match u with | (hl1, vh1) => gH (dC, dI) kA (SHc nC nS) G t.heap ∧ gF (dC, dI) SKc G ([(3, 15), (10, 7), (50, 0), (54, 0), (56, 0), (57, 0)] : List (Nat × Nat)) H0 t.heap ∧ el t.heap o0 (dI 3 15) = some (.int hl1) ∧ ct t.heap hd9 30 vh1 ∧ (hl1 = 0 → gF (dC, dI) SKc G ([(3, 15), (50, 0), (56, 0), (57, 0)] : List (Nat × Nat)) H0 t.heap)) (gA G H0.size)) 0 0 (gA G H0.size) := by
  refine Met.ofW (cc := cX0_giveFarms) (maxL := 7) (ret := (some .int)) (by decide) rfl ?_
  intro p e s m args below meth c s₁ B hml hv
  obtain ⟨rfl, hH0, hK, hE⟩ := hv
  have hx := B.exec
  have hb := B.bytes
  have hr := B.returns
  have hts := atoms_spec (ws := w_c_giveFarmsZ) B.pre
  have hown : s.vm.findClass RX0 = some m.cls := findClass_of_methodNamed B.named
  have hlocks := B.notSynchronized
  subst hH0
  generalize hAe : gA G s.heap.size = A at hE ⊢
  have hA : ∀ q : Nat, s.heap.size ≤ q → A q := fun q h => by rw [← hAe]; exact Or.inr h
  have hG := gA_of hAe
  have hS : va_S A s.heap s.heap [] := va_S.rf
  have hF : gF (dC, dI) SKc G ([(3, 15), (10, 7), (50, 0), (54, 0), (56, 0), (57, 0)] : List (Nat × Nat)) s.heap s.heap := gF.rf
  have hl := lv_entry ([.ref o0, .int p0, .ref p1]) (n := 7) (Nat.le_of_ble_eq_true rfl)
  rw [lg_entry_eq]
  generalize (lg_sl ([.ref o0, .int p0, .ref p1]) ++ List.replicate (7 - (lg_sl ([.ref o0, .int p0, .ref p1])).length) Slot.unset).toArray = ls at hl ⊢
  have hl : lv_has ls 7 [(0, .ref o0), (1, .int p0), (2, .ref p1)] := hl
  have hF2 : gF (dC, dI) SKc G ([(3, 15), (50, 0), (56, 0), (57, 0)] : List (Nat × Nat)) s.heap s.heap := gF.rf
  refine lv_iconst (v := 0) hx hb dX0_giveFarms_0 (by decide) ?_
  refine lv_istore_n (lv' := [(3, .int 0), (0, .ref o0), (1, .int p0), (2, .ref p1)]) hx hb dX0_giveFarms_1 rfl hl (by decide) rfl (fun ls hl => ?_)
  have key1162 : ∀ (n1162 i1 : Nat), i1 + n1162 = 60 → 0 ≤ i1 → ∀ (V2 : Nat → Int32), ((zPm (zLs (fun _ => 0) vA vD vC vU vI vW (fun _ => 0)) A9 V2 i1) ∧ (((i1 : Nat) : Int) ≤ nS)) → ∀ (H : Heap) (locs : List Loc), gH (dC, dI) kA (SHc nC nS) G H → gF (dC, dI) SKc G ([(3, 15), (10, 7), (50, 0), (54, 0), (56, 0), (57, 0)] : List (Nat × Nat)) s.heap H → (gF (dC, dI) SKc G ([(3, 15), (50, 0), (56, 0), (57, 0)] : List (Nat × Nat)) s.heap H) → va_S A s.heap H locs → ct H mk9 60 V2 → ct H hd9 30 vh → ct H kn 20 vK → ct H sf 20 vF → ct H sto 20 vT → ct H stp9 400 vS → el H o0 (dI 3 6) = some (.ref mk9) → el H o0 (dI 3 3) = some (.ref hd9) → el H o0 (dI 3 0) = some (.ref sA) → el H o0 (dI 3 16) = some (.int fm) → el H o0 (dI 3 5) = some (.ref fa9) → el H o0 (dI 3 15) = some (.int hl) → el H o0 (dI 3 7) = some (.ref lw) → el H lw (dI 7 2) = some (.ref kn) → el H lw (dI 7 11) = some (.int ln) → el H lw (dI 7 7) = some (.ref sf) → el H lw (dI 7 8) = some (.ref sto) → el H lw (dI 7 9) = some (.ref stp9) → el H lw (dI 7 10) = some (.ref stk) → ∀ ls : Array Slot, lv_has ls 7 [(3, .int (nI i1)), (0, .ref o0), (1, .int p0), (2, .ref p1)] → W p l e (headSpec w_c_giveFarmsZ ({ frames := 5, cells := 0, slots := 0, locals := 135 })).room s m #[.ref o0, .int p0, .ref p1] below meth c H locs 0 0 (MQ below (va_Qi (fun (r : Int32) (u : Int32 × (Nat → Int32)) => match u with | (hl1, vh1) => (0 ≤ r.toInt ∧ r.toInt ≤ 60) ∧ ((0 < r.toInt ∧ ((1 ≤ p0.toInt ∧ p0.toInt ≤ 60) ∧ 0 < fm.toInt ∧ zNO (zLs (fun _ => 0) vA vD vC vU vI vW (fun _ => 0)) A9 nS)) ∨ (r.toInt = 0 ∧ ¬ ((1 ≤ p0.toInt ∧ p0.toInt ≤ 60) ∧ 0 < fm.toInt ∧ zNO (zLs (fun _ => 0) vA vD vC vU vI vW (fun _ => 0)) A9 nS) ∧ vh = vh1)) ∧ (hl1.toInt = r.toInt ∧ zct vh1 30 = hl1.toInt)) (fun (u : Int32 × (Nat → Int32)) (t : State) => match u with | (hl1, vh1) => gH (dC, dI) kA (SHc nC nS) G t.heap ∧ gF (dC, dI) SKc G ([(3, 15), (10, 7), (50, 0), (54, 0), (56, 0), (57, 0)] : List (Nat × Nat)) s.heap t.heap ∧ el t.heap o0 (dI 3 15) = some (.int hl1) ∧ ct t.heap hd9 30 vh1 ∧ (hl1 = 0 → gF (dC, dI) SKc G ([(3, 15), (50, 0), (56, 0), (57, 0)] : List (Nat × Nat)) s.heap t.heap)) A) #[.ref o0, .int p0, .ref p1] s 0 0 A) (F0 m 2 ls []) := by
    intro n1162
    induction n1162 with
    | zero =>
      intro i1 hn1162 hlo1163 V2 ⟨hj22, hj23⟩ H locs hT hF hF2 hS m3 m4 m5 m6 m7 m8 m9 m10 m11 m12 m13 m14 m15 m16 m17 m18 m19 m20 m21 ls hl
      obtain rfl : 60 = i1 := by omega
      refine lv_iload_n hx hb dX0_giveFarms_2 rfl (lv_at hl 0 rfl) ?_
      refine lv_aload_n hx hb dX0_giveFarms_3 rfl (lv_at hl 1 rfl) ?_
      refine tw_get hx hb hts bF2_X0 hown hK hT hr_o0 shc_3 rfl 14 (by decide) (ht_at2 hts 0 rfl) (fun _ h9 => h9) dX0_giveFarms_4 (fun v9 m1164 h9 => ?_)
      obtain ⟨x1165, rfl, gx1165, kx1165⟩ := h9 _ rfl
      refine lv_icmp_ge (tgt := 76) hx hb dX0_giveFarms_7 (by decide) (fun c1166 => ?_) (fun c1166 => (by exfalso; have q9 : ((60 : Nat) : Int) < x1165.toInt := ti_nle c1166 rfl (nI_toInt (by omega)); omega))
      have t1167 : x1165.toInt ≤ ((60 : Nat) : Int) := ti_le c1166 rfl (nI_toInt (by omega))
      refine lv_iconst (v := 0) hx hb dX0_giveFarms_76 (by decide) ?_
      refine lv_istore_n (lv' := [(3, .int 0), (0, .ref o0), (1, .int p0), (2, .ref p1)]) hx hb dX0_giveFarms_77 rfl hl (by decide) rfl (fun ls hl => ?_)
      refine lv_iconst (v := 0) hx hb dX0_giveFarms_78 (by decide) ?_
      refine lv_istore (lv' := [(4, .int 0), (3, .int 0), (0, .ref o0), (1, .int p0), (2, .ref p1)]) hx hb dX0_giveFarms_79 hl (by decide) rfl (fun ls hl => ?_)
      have key1618 : ∀ (n1618 i1168 : Nat), i1168 + n1618 = 60 → 0 ≤ i1168 → ∀ (z1169 : Int32), ∀ (V1171 : Nat → Int32), ∀ (V1173 : Nat → Int32), ((0 ≤ z1169.toInt ∧ z1169.toInt ≤ 60) ∧ ((zct V1173 30 = z1169.toInt) ∧ ((((i1168 : Nat) : Int) = 0 ∧ z1169.toInt = 0 ∧ vh = V1173 ∧ zPm (zLs (fun _ => 0) vA vD vC vU vI vW (fun _ => 0)) A9 V1171 nS.toNat) ∨ (1 ≤ ((i1168 : Nat) : Int) ∧ 1 ≤ z1169.toInt ∧ 0 < fm.toInt ∧ zNO (zLs (fun _ => 0) vA vD vC vU vI vW (fun _ => 0)) A9 nS))) ∧ (0 ≤ z1169.toInt ∧ z1169.toInt ≤ ((i1168 : Nat) : Int))) → ∀ (H : Heap) (locs : List Loc), gH (dC, dI) kA (SHc nC nS) G H → gF (dC, dI) SKc G ([(3, 15), (10, 7), (50, 0), (54, 0), (56, 0), (57, 0)] : List (Nat × Nat)) s.heap H → (i1168 = 0 → gF (dC, dI) SKc G ([(3, 15), (50, 0), (56, 0), (57, 0)] : List (Nat × Nat)) s.heap H) → va_S A s.heap H locs → ct H mk9 60 V1171 → ct H hd9 30 V1173 → ct H kn 20 vK → ct H sf 20 vF → ct H sto 20 vT → ct H stp9 400 vS → el H o0 (dI 3 6) = some (.ref mk9) → el H o0 (dI 3 3) = some (.ref hd9) → el H o0 (dI 3 0) = some (.ref sA) → el H o0 (dI 3 16) = some (.int fm) → el H o0 (dI 3 5) = some (.ref fa9) → el H o0 (dI 3 15) = some (.int hl) → el H o0 (dI 3 7) = some (.ref lw) → el H lw (dI 7 2) = some (.ref kn) → el H lw (dI 7 11) = some (.int ln) → el H lw (dI 7 7) = some (.ref sf) → el H lw (dI 7 8) = some (.ref sto) → el H lw (dI 7 9) = some (.ref stp9) → el H lw (dI 7 10) = some (.ref stk) → el H o0 (dI 3 14) = some (.int x1165) → ∀ ls : Array Slot, lv_has ls 7 [(4, .int (nI i1168)), (3, .int z1169), (0, .ref o0), (1, .int p0), (2, .ref p1)] → W p l e (headSpec w_c_giveFarmsZ ({ frames := 5, cells := 0, slots := 0, locals := 135 })).room s m #[.ref o0, .int p0, .ref p1] below meth c H locs 0 0 (MQ below (va_Qi (fun (r : Int32) (u : Int32 × (Nat → Int32)) => match u with | (hl1, vh1) => (0 ≤ r.toInt ∧ r.toInt ≤ 60) ∧ ((0 < r.toInt ∧ ((1 ≤ p0.toInt ∧ p0.toInt ≤ 60) ∧ 0 < fm.toInt ∧ zNO (zLs (fun _ => 0) vA vD vC vU vI vW (fun _ => 0)) A9 nS)) ∨ (r.toInt = 0 ∧ ¬ ((1 ≤ p0.toInt ∧ p0.toInt ≤ 60) ∧ 0 < fm.toInt ∧ zNO (zLs (fun _ => 0) vA vD vC vU vI vW (fun _ => 0)) A9 nS) ∧ vh = vh1)) ∧ (hl1.toInt = r.toInt ∧ zct vh1 30 = hl1.toInt)) (fun (u : Int32 × (Nat → Int32)) (t : State) => match u with | (hl1, vh1) => gH (dC, dI) kA (SHc nC nS) G t.heap ∧ gF (dC, dI) SKc G ([(3, 15), (10, 7), (50, 0), (54, 0), (56, 0), (57, 0)] : List (Nat × Nat)) s.heap t.heap ∧ el t.heap o0 (dI 3 15) = some (.int hl1) ∧ ct t.heap hd9 30 vh1 ∧ (hl1 = 0 → gF (dC, dI) SKc G ([(3, 15), (50, 0), (56, 0), (57, 0)] : List (Nat × Nat)) s.heap t.heap)) A) #[.ref o0, .int p0, .ref p1] s 0 0 A) (F0 m 81 ls []) := by
        intro n1618
        induction n1618 with
        | zero =>
          intro i1168 hn1618 hlo1619 z1169 V1171 V1173 ⟨h1170, hj1193, hj1194⟩ H locs hT hF hF3 hS m1172 m1174 m1175 m1176 m1177 m1178 m1179 m1180 m1181 m1182 m1183 m1184 m1185 m1186 m1187 m1188 m1189 m1190 m1191 m1192 ls hl
          obtain rfl : 60 = i1168 := by omega
          refine lv_iload hx hb dX0_giveFarms_81 (lv_at hl 0 rfl) ?_
          refine lv_iload_n hx hb dX0_giveFarms_83 rfl (lv_at hl 3 rfl) ?_
          refine lv_icmp_ge (tgt := 155) hx hb dX0_giveFarms_84 (by decide) (fun c1620 => ?_) (fun c1620 => (by exfalso; have q9 : ((60 : Nat) : Int) < p0.toInt := ti_nle c1620 rfl (nI_toInt (by omega)); omega))
          have t1621 : p0.toInt ≤ ((60 : Nat) : Int) := ti_le c1620 rfl (nI_toInt (by omega))
          obtain ⟨hct1629, hj1193x⟩ := hj1193
          rcases hj1193x with ⟨ha1622, ha1623, rfl, hpm1624⟩ | ⟨hb1625, hb1626, hfm1627, hno1628⟩
          · have hF2 := hF3 (by omega)
            refine lv_aload_n hx hb dX0_giveFarms_155 rfl (lv_at hl 2 rfl) ?_
            refine lv_dup hx hb dX0_giveFarms_156 rfl ?_
            refine tw_getM (v := .int hl) hx hb hts bF2_X0 hown hK hT hr_o0 shc_3 rfl 15 (by decide) (ht_at2 hts 1 rfl) (fun _ h9 => h9) m1184 dX0_giveFarms_157 ?_
            refine lv_iload_n hx hb dX0_giveFarms_160 rfl (lv_at hl 1 rfl) ?_
            refine lv_iadd hx hb dX0_giveFarms_161 ?_
            refine lv_topi (fun x1630 ex1630 => ?_)
            have t1631 : x1630.toInt = hl.toInt + z1169.toInt := ti_add ex1630 rfl rfl (by omega) (by omega)
            refine tw_put (v := .int x1630) (ty := .int) hx hb hts bF2_X0 tyX0 tyX0_ok nmX0 hown hK hT hG hS hr_o0 shc_3 rfl 15 (by decide) (ht_at2 hts 1 rfl) (fun _ h9 => h9) rfl (by decide +kernel) rfl rfl (gl_at rfl (gi_all _)) dX0_giveFarms_162 (fun H locs hT oq m1632 oj hS => ?_)
            have hF := hF.put hr_o0 skc_3 oq oj (by decide)
            have hF2 := hF2.put hr_o0 skc_3 oq oj (by decide)
            have m1634 := m1174.kept (oq _ (gne hr_hd9 hr_o0 (by decide)))
            refine lv_iload_n hx hb dX0_giveFarms_165 rfl (lv_at hl 1 rfl) ?_
            exact W.iret (v := z1169) hx hb hr (fun t ht hW => ⟨⟨z1169, (x1630, vh), rfl, (by exact ⟨(by have q8 := ti_all z1169; omega), (by have r9 := (show z1169.toInt = z1169.toInt from rfl); exact Or.inr ⟨by omega, fun h8 => by have := h8.1; omega, rfl⟩), (by have := (show x1630.toInt = x1630.toInt from rfl); have := (show z1169.toInt = z1169.toInt from rfl); have := hct1629; exact ⟨by omega, by omega⟩)⟩), by (try dsimp only); rw [ht]; exact ⟨hT, hF, m1632, m1634, (fun _ => hF2)⟩⟩, hS.F ht⟩) hS.2.2 dX0_giveFarms_166
          · refine lv_aload_n hx hb dX0_giveFarms_155 rfl (lv_at hl 2 rfl) ?_
            refine lv_dup hx hb dX0_giveFarms_156 rfl ?_
            refine tw_getM (v := .int hl) hx hb hts bF2_X0 hown hK hT hr_o0 shc_3 rfl 15 (by decide) (ht_at2 hts 1 rfl) (fun _ h9 => h9) m1184 dX0_giveFarms_157 ?_
            refine lv_iload_n hx hb dX0_giveFarms_160 rfl (lv_at hl 1 rfl) ?_
            refine lv_iadd hx hb dX0_giveFarms_161 ?_
            refine lv_topi (fun x1652 ex1652 => ?_)
            have t1653 : x1652.toInt = hl.toInt + z1169.toInt := ti_add ex1652 rfl rfl (by omega) (by omega)
            refine tw_put (v := .int x1652) (ty := .int) hx hb hts bF2_X0 tyX0 tyX0_ok nmX0 hown hK hT hG hS hr_o0 shc_3 rfl 15 (by decide) (ht_at2 hts 1 rfl) (fun _ h9 => h9) rfl (by decide +kernel) rfl rfl (gl_at rfl (gi_all _)) dX0_giveFarms_162 (fun H locs hT oq m1654 oj hS => ?_)
            have hF := hF.put hr_o0 skc_3 oq oj (by decide)
            have m1656 := m1174.kept (oq _ (gne hr_hd9 hr_o0 (by decide)))
            refine lv_iload_n hx hb dX0_giveFarms_165 rfl (lv_at hl 1 rfl) ?_
            exact W.iret (v := z1169) hx hb hr (fun t ht hW => ⟨⟨z1169, (x1652, V1173), rfl, (by exact ⟨(by have q8 := ti_all z1169; omega), (by have r9 := (show z1169.toInt = z1169.toInt from rfl); exact Or.inl ⟨by omega, ⟨by omega, by omega⟩, hfm1627, hno1628⟩), (by have := (show x1652.toInt = x1652.toInt from rfl); have := (show z1169.toInt = z1169.toInt from rfl); have := hct1629; exact ⟨by omega, by omega⟩)⟩), by (try dsimp only); rw [ht]; exact ⟨hT, hF, m1654, m1656, (fun h9 => by exfalso; have h8 := congrArg Int32.toInt h9; have z8 : (0 : Int32).toInt = 0 := (by decide); have := (show x1652.toInt = x1652.toInt from rfl); omega)⟩⟩, hS.F ht⟩) hS.2.2 dX0_giveFarms_166
        | succ n1618 ih1618 =>
          intro i1168 hn1618 hlo1619 z1169 V1171 V1173 ⟨h1170, hj1193, hj1194⟩ H locs hT hF hF3 hS m1172 m1174 m1175 m1176 m1177 m1178 m1179 m1180 m1181 m1182 m1183 m1184 m1185 m1186 m1187 m1188 m1189 m1190 m1191 m1192 ls hl
          have hlt1673 : i1168 < 60 := by omega
          refine lv_iload hx hb dX0_giveFarms_81 (lv_at hl 0 rfl) ?_
          refine lv_iload_n hx hb dX0_giveFarms_83 rfl (lv_at hl 3 rfl) ?_
          refine lv_icmp_ge (tgt := 155) hx hb dX0_giveFarms_84 (by decide) (fun c1674 => ?_) (fun c1674 => ?_)
          · have t1675 : p0.toInt ≤ ((i1168 : Nat) : Int) := ti_le c1674 rfl (nI_toInt (by omega))
            obtain ⟨hct1683, hj1193x⟩ := hj1193
            rcases hj1193x with ⟨ha1676, ha1677, rfl, hpm1678⟩ | ⟨hb1679, hb1680, hfm1681, hno1682⟩
            · have hF2 := hF3 (by omega)
              refine lv_aload_n hx hb dX0_giveFarms_155 rfl (lv_at hl 2 rfl) ?_
              refine lv_dup hx hb dX0_giveFarms_156 rfl ?_
              refine tw_getM (v := .int hl) hx hb hts bF2_X0 hown hK hT hr_o0 shc_3 rfl 15 (by decide) (ht_at2 hts 1 rfl) (fun _ h9 => h9) m1184 dX0_giveFarms_157 ?_
              refine lv_iload_n hx hb dX0_giveFarms_160 rfl (lv_at hl 1 rfl) ?_
              refine lv_iadd hx hb dX0_giveFarms_161 ?_
              refine lv_topi (fun x1684 ex1684 => ?_)
              have t1685 : x1684.toInt = hl.toInt + z1169.toInt := ti_add ex1684 rfl rfl (by omega) (by omega)
              refine tw_put (v := .int x1684) (ty := .int) hx hb hts bF2_X0 tyX0 tyX0_ok nmX0 hown hK hT hG hS hr_o0 shc_3 rfl 15 (by decide) (ht_at2 hts 1 rfl) (fun _ h9 => h9) rfl (by decide +kernel) rfl rfl (gl_at rfl (gi_all _)) dX0_giveFarms_162 (fun H locs hT oq m1686 oj hS => ?_)
              have hF := hF.put hr_o0 skc_3 oq oj (by decide)
              have hF2 := hF2.put hr_o0 skc_3 oq oj (by decide)
              have m1688 := m1174.kept (oq _ (gne hr_hd9 hr_o0 (by decide)))
              refine lv_iload_n hx hb dX0_giveFarms_165 rfl (lv_at hl 1 rfl) ?_
              exact W.iret (v := z1169) hx hb hr (fun t ht hW => ⟨⟨z1169, (x1684, vh), rfl, (by exact ⟨(by have q8 := ti_all z1169; omega), (by have r9 := (show z1169.toInt = z1169.toInt from rfl); exact Or.inr ⟨by omega, fun h8 => by have := h8.1; omega, rfl⟩), (by have := (show x1684.toInt = x1684.toInt from rfl); have := (show z1169.toInt = z1169.toInt from rfl); have := hct1683; exact ⟨by omega, by omega⟩)⟩), by (try dsimp only); rw [ht]; exact ⟨hT, hF, m1686, m1688, (fun _ => hF2)⟩⟩, hS.F ht⟩) hS.2.2 dX0_giveFarms_166
            · refine lv_aload_n hx hb dX0_giveFarms_155 rfl (lv_at hl 2 rfl) ?_
              refine lv_dup hx hb dX0_giveFarms_156 rfl ?_
              refine tw_getM (v := .int hl) hx hb hts bF2_X0 hown hK hT hr_o0 shc_3 rfl 15 (by decide) (ht_at2 hts 1 rfl) (fun _ h9 => h9) m1184 dX0_giveFarms_157 ?_
              refine lv_iload_n hx hb dX0_giveFarms_160 rfl (lv_at hl 1 rfl) ?_
              refine lv_iadd hx hb dX0_giveFarms_161 ?_
              refine lv_topi (fun x1706 ex1706 => ?_)
              have t1707 : x1706.toInt = hl.toInt + z1169.toInt := ti_add ex1706 rfl rfl (by omega) (by omega)
              refine tw_put (v := .int x1706) (ty := .int) hx hb hts bF2_X0 tyX0 tyX0_ok nmX0 hown hK hT hG hS hr_o0 shc_3 rfl 15 (by decide) (ht_at2 hts 1 rfl) (fun _ h9 => h9) rfl (by decide +kernel) rfl rfl (gl_at rfl (gi_all _)) dX0_giveFarms_162 (fun H locs hT oq m1708 oj hS => ?_)
              have hF := hF.put hr_o0 skc_3 oq oj (by decide)
              have m1710 := m1174.kept (oq _ (gne hr_hd9 hr_o0 (by decide)))
              refine lv_iload_n hx hb dX0_giveFarms_165 rfl (lv_at hl 1 rfl) ?_
              exact W.iret (v := z1169) hx hb hr (fun t ht hW => ⟨⟨z1169, (x1706, V1173), rfl, (by exact ⟨(by have q8 := ti_all z1169; omega), (by have r9 := (show z1169.toInt = z1169.toInt from rfl); exact Or.inl ⟨by omega, ⟨by omega, by omega⟩, hfm1681, hno1682⟩), (by have := (show x1706.toInt = x1706.toInt from rfl); have := (show z1169.toInt = z1169.toInt from rfl); have := hct1683; exact ⟨by omega, by omega⟩)⟩), by (try dsimp only); rw [ht]; exact ⟨hT, hF, m1708, m1710, (fun h9 => by exfalso; have h8 := congrArg Int32.toInt h9; have z8 : (0 : Int32).toInt = 0 := (by decide); have := (show x1706.toInt = x1706.toInt from rfl); omega)⟩⟩, hS.F ht⟩) hS.2.2 dX0_giveFarms_166
          · have t1728 : ((i1168 : Nat) : Int) < p0.toInt := ti_nle c1674 rfl (nI_toInt (by omega))
            obtain ⟨hct1736, hj1193x⟩ := hj1193
            rcases hj1193x with ⟨ha1729, ha1730, rfl, hpm1731⟩ | ⟨hb1732, hb1733, hfm1734, hno1735⟩
            · have hF2 := hF3 (by omega)
              refine lv_aload_n hx hb dX0_giveFarms_87 rfl (lv_at hl 2 rfl) ?_
              have hFc := gA_free hG hA hS
              refine va_calli (va_runV (As := []) (rest := []) ⟨hx, hb, hml, hown, hts⟩ (c_firstByMarkZ l dC dI kA adK adV G H nC nS o0 mk9 V1171 hT hr_o0 m1179 hr_mk9 m1172 (by omega) (by omega)) (cwV 0 hts (goodIn_app (goodIn_r _ [6, 7, 8, 9] rfl (by decide +kernel)) (goodIn_ca (goodIn_r _ [3, 1, 4, 5] rfl (by decide +kernel)) (bs2_in _ _))) rfl rfl rfl (by decide +kernel) ⟨(Nat.le_of_ble_eq_true rfl), (Nat.le_of_ble_eq_true rfl)⟩) ⟨fun a U g mk q => by obtain ⟨q0, q1, qK, qE⟩ := q; exact ⟨q0, q1, va_K.moved (u := U) (U := U.calling g mk a) (Vm.Alike.refl U.vm) qK, EVC.blind g mk a qE⟩, gH_rc hK hT hr_o0 shc_3 rfl, fun U hU hW => ⟨rfl, hU, va_K.moved hW.alike hK, hE.call hS hFc hU hW⟩⟩ rfl rfl hl.1 rfl (lv_room (Nat.le_of_ble_eq_true rfl)) dX0_giveFarms_88 ⟨(Nat.le_of_ble_eq_true rfl), (Nat.le_of_ble_eq_true rfl)⟩) hS (fun q _ h => hFc q h) hFc (fun r1737 u t H locs ht hvm hw1738 hB _ _ hS => ?_)
              obtain ⟨hT, hF1⟩ := hB
              rw [ht] at hT hF1
              have m1739 := m1172.kept (hF1.arr hr_mk9 skc_57 (by decide))
              have m1740 := m1174.kept (hF1.arr hr_hd9 skc_54 (by decide))
              have m1741 := m1175.kept (hF1.arr hr_kn skc_42 (by decide))
              have m1742 := m1176.kept (hF1.arr hr_sf skc_47 (by decide))
              have m1743 := m1177.kept (hF1.arr hr_sto skc_48 (by decide))
              have m1744 := m1178.kept (hF1.arr hr_stp9 skc_49 (by decide))
              have m1745 := (hF1.fld hr_o0 skc_3 (k := 6) (by decide) (by decide)).trans m1179
              have m1746 := (hF1.fld hr_o0 skc_3 (k := 3) (by decide) (by decide)).trans m1180
              have m1747 := (hF1.fld hr_o0 skc_3 (k := 0) (by decide) (by decide)).trans m1181
              have m1748 := (hF1.fld hr_o0 skc_3 (k := 16) (by decide) (by decide)).trans m1182
              have m1749 := (hF1.fld hr_o0 skc_3 (k := 5) (by decide) (by decide)).trans m1183
              have m1750 := (hF1.fld hr_o0 skc_3 (k := 15) (by decide) (by decide)).trans m1184
              have m1751 := (hF1.fld hr_o0 skc_3 (k := 7) (by decide) (by decide)).trans m1185
              have m1752 := (hF1.fld hr_lw skc_7 (k := 2) (by decide) (by decide)).trans m1186
              have m1753 := (hF1.fld hr_lw skc_7 (k := 11) (by decide) (by decide)).trans m1187
              have m1754 := (hF1.fld hr_lw skc_7 (k := 7) (by decide) (by decide)).trans m1188
              have m1755 := (hF1.fld hr_lw skc_7 (k := 8) (by decide) (by decide)).trans m1189
              have m1756 := (hF1.fld hr_lw skc_7 (k := 9) (by decide) (by decide)).trans m1190
              have m1757 := (hF1.fld hr_lw skc_7 (k := 10) (by decide) (by decide)).trans m1191
              have m1758 := (hF1.fld hr_o0 skc_3 (k := 14) (by decide) (by decide)).trans m1192
              have hF := hF.more hF1 (by decide)
              have hF2 := hF2.more hF1 (by decide)
              try dsimp only at hw1738
              obtain ⟨h1759, hf1760⟩ := hw1738
              refine lv_istore (lv' := [(5, .int r1737), (4, .int (nI i1168)), (3, .int z1169), (0, .ref o0), (1, .int p0), (2, .ref p1)]) hx hb dX0_giveFarms_91 hl (by decide) rfl (fun ls hl => ?_)
              refine lv_aload_n hx hb dX0_giveFarms_93 rfl (lv_at hl 3 rfl) ?_
              refine lv_aload_n hx hb dX0_giveFarms_94 rfl (lv_at hl 5 rfl) ?_
              refine tw_getN hx hb hts bF2_X3 hown hK hT hr_p1 shc_6 rfl 1 (by decide) (hE.nw 73 rfl) (fun _ h9 => h9) dX0_giveFarms_95 (fun v9 m1761 h9 => ?_)
              obtain ⟨b1762, rfl, hg1763⟩ := h9 _ rfl
              have hFc := gA_free hG hA hS
              refine va_calli (va_runV (As := [.ref b1762]) (rest := []) ⟨hx, hb, hml, hown, hts⟩ (c_bestFreeFarmZ l dC dI kA adK adV G H nC nS o0 b1762 hd9 fm vh hT hg1763 hr_o0 m1746 hr_hd9 m1748 (by have q8 := ti_all fm; omega) hnh m1740 (by omega) (by omega)) (cwV 1 hts (goodIn_app (goodIn_r _ [22, 23, 24, 9] rfl (by decide +kernel)) (goodIn_ca (goodIn_r _ [10, 11, 12, 13, 14, 15, 16, 17, 18, 19, 20, 21, 9] rfl (by decide +kernel)) (bs2_in _ _))) rfl rfl rfl (by decide +kernel) ⟨(Nat.le_of_ble_eq_true rfl), (Nat.le_of_ble_eq_true rfl)⟩) ⟨fun a U g mk q => by obtain ⟨q0, q1, qK, qE⟩ := q; exact ⟨q0, q1, va_K.moved (u := U) (U := U.calling g mk a) (Vm.Alike.refl U.vm) qK, EVC.blind g mk a qE⟩, gH_rc hK hT hr_o0 shc_3 rfl, fun U hU hW => ⟨rfl, hU, va_K.moved hW.alike hK, hE.call hS hFc hU hW⟩⟩ rfl rfl hl.1 rfl (lv_room (Nat.le_of_ble_eq_true rfl)) dX0_giveFarms_98 ⟨(Nat.le_of_ble_eq_true rfl), (Nat.le_of_ble_eq_true rfl)⟩) hS (fun q _ h => hFc q h) hFc (fun r1764 u t H locs ht hvm hw1765 hB _ _ hS => ?_)
              obtain ⟨hT, hF1⟩ := hB
              rw [ht] at hT hF1
              have m1766 := m1739.kept (hF1.arr hr_mk9 skc_57 (by decide))
              have m1767 := m1740.kept (hF1.arr hr_hd9 skc_54 (by decide))
              have m1768 := m1741.kept (hF1.arr hr_kn skc_42 (by decide))
              have m1769 := m1742.kept (hF1.arr hr_sf skc_47 (by decide))
              have m1770 := m1743.kept (hF1.arr hr_sto skc_48 (by decide))
              have m1771 := m1744.kept (hF1.arr hr_stp9 skc_49 (by decide))
              have m1772 := (hF1.fld hr_o0 skc_3 (k := 6) (by decide) (by decide)).trans m1745
              have m1773 := (hF1.fld hr_o0 skc_3 (k := 3) (by decide) (by decide)).trans m1746
              have m1774 := (hF1.fld hr_o0 skc_3 (k := 0) (by decide) (by decide)).trans m1747
              have m1775 := (hF1.fld hr_o0 skc_3 (k := 16) (by decide) (by decide)).trans m1748
              have m1776 := (hF1.fld hr_o0 skc_3 (k := 5) (by decide) (by decide)).trans m1749
              have m1777 := (hF1.fld hr_o0 skc_3 (k := 15) (by decide) (by decide)).trans m1750
              have m1778 := (hF1.fld hr_o0 skc_3 (k := 7) (by decide) (by decide)).trans m1751
              have m1779 := (hF1.fld hr_lw skc_7 (k := 2) (by decide) (by decide)).trans m1752
              have m1780 := (hF1.fld hr_lw skc_7 (k := 11) (by decide) (by decide)).trans m1753
              have m1781 := (hF1.fld hr_lw skc_7 (k := 7) (by decide) (by decide)).trans m1754
              have m1782 := (hF1.fld hr_lw skc_7 (k := 8) (by decide) (by decide)).trans m1755
              have m1783 := (hF1.fld hr_lw skc_7 (k := 9) (by decide) (by decide)).trans m1756
              have m1784 := (hF1.fld hr_lw skc_7 (k := 10) (by decide) (by decide)).trans m1757
              have m1785 := (hF1.fld hr_o0 skc_3 (k := 14) (by decide) (by decide)).trans m1758
              have hF := hF.more hF1 (by decide)
              have hF2 := hF2.more hF1 (by decide)
              try dsimp only at hw1765
              obtain ⟨h1787, hf1788⟩ := hw1765
              refine lv_istore (lv' := [(6, .int r1764), (5, .int r1737), (4, .int (nI i1168)), (3, .int z1169), (0, .ref o0), (1, .int p0), (2, .ref p1)]) hx hb dX0_giveFarms_101 hl (by decide) rfl (fun ls hl => ?_)
              refine lv_iload hx hb dX0_giveFarms_103 (lv_at hl 1 rfl) ?_
              refine lv_iconst (v := (-1)) hx hb dX0_giveFarms_105 (by decide) ?_
              refine lv_icmp_eq (tgt := 155) hx hb dX0_giveFarms_106 (by decide) (fun c1789 => ?_) (fun c1789 => ?_)
              · have t1790 : r1737.toInt = (-1) := ti_eq c1789 rfl (by decide)
                refine lv_aload_n hx hb dX0_giveFarms_155 rfl (lv_at hl 4 rfl) ?_
                refine lv_dup hx hb dX0_giveFarms_156 rfl ?_
                refine tw_getM (v := .int hl) hx hb hts bF2_X0 hown hK hT hr_o0 shc_3 rfl 15 (by decide) (ht_at2 hts 1 rfl) (fun _ h9 => h9) m1777 dX0_giveFarms_157 ?_
                refine lv_iload_n hx hb dX0_giveFarms_160 rfl (lv_at hl 3 rfl) ?_
                refine lv_iadd hx hb dX0_giveFarms_161 ?_
                refine lv_topi (fun x1791 ex1791 => ?_)
                have t1792 : x1791.toInt = hl.toInt + z1169.toInt := ti_add ex1791 rfl rfl (by omega) (by omega)
                refine tw_put (v := .int x1791) (ty := .int) hx hb hts bF2_X0 tyX0 tyX0_ok nmX0 hown hK hT hG hS hr_o0 shc_3 rfl 15 (by decide) (ht_at2 hts 1 rfl) (fun _ h9 => h9) rfl (by decide +kernel) rfl rfl (gl_at rfl (gi_all _)) dX0_giveFarms_162 (fun H locs hT oq m1793 oj hS => ?_)
                have hF := hF.put hr_o0 skc_3 oq oj (by decide)
                have hF2 := hF2.put hr_o0 skc_3 oq oj (by decide)
                have m1795 := m1767.kept (oq _ (gne hr_hd9 hr_o0 (by decide)))
                refine lv_iload_n hx hb dX0_giveFarms_165 rfl (lv_at hl 3 rfl) ?_
                exact W.iret (v := z1169) hx hb hr (fun t ht hW => ⟨⟨z1169, (x1791, vh), rfl, (by exact ⟨(by have q8 := ti_all z1169; omega), (by have r9 := (show z1169.toInt = z1169.toInt from rfl); exact Or.inr ⟨by omega, fun h8 => by have := h8.2.1; have n9 := h8.2.2; rcases hf1760 with ⟨h7, h6⟩ | ⟨h7, h6, h5⟩; (exact (hpm1731.no (by omega) h6) n9); omega, rfl⟩), (by have := (show x1791.toInt = x1791.toInt from rfl); have := (show z1169.toInt = z1169.toInt from rfl); have := hct1736; exact ⟨by omega, by omega⟩)⟩), by (try dsimp only); rw [ht]; exact ⟨hT, hF, m1793, m1795, (fun _ => hF2)⟩⟩, hS.F ht⟩) hS.2.2 dX0_giveFarms_166
              · have t1814 : r1737.toInt ≠ (-1) := ti_ne c1789 rfl (by decide)
                refine lv_iload hx hb dX0_giveFarms_109 (lv_at hl 0 rfl) ?_
                refine lv_iconst (v := (-1)) hx hb dX0_giveFarms_111 (by decide) ?_
                refine lv_icmp_ne (tgt := 118) hx hb dX0_giveFarms_112 (by decide) (fun c1815 => ?_) (fun c1815 => ?_)
                · have t1816 : r1764.toInt ≠ (-1) := ti_ne c1815 rfl (by decide)
                  refine lv_aload_n hx hb dX0_giveFarms_118 rfl (lv_at hl 4 rfl) ?_
                  refine tw_getM (v := .ref mk9) hx hb hts bF2_X0 hown hK hT hr_o0 shc_3 rfl 6 (by decide) (ht_at2 hts 3 rfl) (fun _ h9 => h9) m1772 dX0_giveFarms_119 ?_
                  refine lv_iload hx hb dX0_giveFarms_122 (lv_at hl 1 rfl) ?_
                  refine lv_iconst (v := (-1)) hx hb dX0_giveFarms_124 (by decide) ?_
                  refine tw_iast (i := r1737) (x := (-1)) hx hb hK hT hG hS hr_mk9 shc_57 rfl (vin_t (a := r1737.toInt) rfl (by omega) (by omega)) (gi_all _) dX0_giveFarms_125 (fun H locs hT oq m1817 oi hS => ?_)
                  have hF := hF.ast hr_mk9 skc_57 oq (by decide)
                  have hF2 := hF2.ast hr_mk9 skc_57 oq (by decide)
                  have m1818 := m1766.put m1817 oi
                  have m1819 := m1767.kept (oq _ (gne hr_hd9 hr_mk9 (by decide)))
                  have m1820 := m1768.kept (oq _ (gne hr_kn hr_mk9 (by decide)))
                  have m1821 := m1769.kept (oq _ (gne hr_sf hr_mk9 (by decide)))
                  have m1822 := m1770.kept (oq _ (gne hr_sto hr_mk9 (by decide)))
                  have m1823 := m1771.kept (oq _ (gne hr_stp9 hr_mk9 (by decide)))
                  have m1824 := (el_kept (oq _ (gne hr_o0 hr_mk9 (by decide)))).trans m1772
                  have m1825 := (el_kept (oq _ (gne hr_o0 hr_mk9 (by decide)))).trans m1773
                  have m1826 := (el_kept (oq _ (gne hr_o0 hr_mk9 (by decide)))).trans m1774
                  have m1827 := (el_kept (oq _ (gne hr_o0 hr_mk9 (by decide)))).trans m1775
                  have m1828 := (el_kept (oq _ (gne hr_o0 hr_mk9 (by decide)))).trans m1776
                  have m1829 := (el_kept (oq _ (gne hr_o0 hr_mk9 (by decide)))).trans m1777
                  have m1830 := (el_kept (oq _ (gne hr_o0 hr_mk9 (by decide)))).trans m1778
                  have m1831 := (el_kept (oq _ (gne hr_lw hr_mk9 (by decide)))).trans m1779
                  have m1832 := (el_kept (oq _ (gne hr_lw hr_mk9 (by decide)))).trans m1780
                  have m1833 := (el_kept (oq _ (gne hr_lw hr_mk9 (by decide)))).trans m1781
                  have m1834 := (el_kept (oq _ (gne hr_lw hr_mk9 (by decide)))).trans m1782
                  have m1835 := (el_kept (oq _ (gne hr_lw hr_mk9 (by decide)))).trans m1783
                  have m1836 := (el_kept (oq _ (gne hr_lw hr_mk9 (by decide)))).trans m1784
                  have m1837 := (el_kept (oq _ (gne hr_o0 hr_mk9 (by decide)))).trans m1785
                  refine lv_aload_n hx hb dX0_giveFarms_126 rfl (lv_at hl 4 rfl) ?_
                  refine tw_getM (v := .ref sA) hx hb hts bF2_X0 hown hK hT hr_o0 shc_3 rfl 0 (by decide) (ht_at2 hts 4 rfl) (fun _ h9 => h9) m1826 dX0_giveFarms_127 ?_
                  refine lv_iload hx hb dX0_giveFarms_130 (lv_at hl 1 rfl) ?_
                  refine tw_aald (i := r1737) hx hb hK hT hr_sA shc_51 rfl (vin_t (a := r1737.toInt) rfl (by omega) (by omega)) dX0_giveFarms_132 (fun v9 m1839 h9 => ?_)
                  obtain ⟨b1840, rfl, hg1841⟩ := (h9.1 (by have q9 := tn_of (show r1737.toInt = r1737.toInt from rfl) (by omega); omega))
                  refine lv_iload hx hb dX0_giveFarms_133 (lv_at hl 0 rfl) ?_
                  refine tw_putN (v := .int r1764) (ty := .int) hx hb hts bF2_X7 tyX7 tyX7_ok nmX7 hown hK hT hG hS hg1841 shc_10 rfl 7 (by decide) (hE.nw 61 rfl) (fun _ h9 => h9) rfl (by decide +kernel) rfl rfl (gl_at rfl (gi_of (show r1764.toInt = r1764.toInt from rfl) (by omega) (by omega))) dX0_giveFarms_135 (fun H locs hT oq m1842 oj hS => ?_)
                  have hF := hF.put hg1841 skc_10 oq oj (by decide)
                  have m1843 := m1818.kept (oq _ (gne hr_mk9 hg1841 (by decide)))
                  have m1844 := m1819.kept (oq _ (gne hr_hd9 hg1841 (by decide)))
                  have m1845 := m1820.kept (oq _ (gne hr_kn hg1841 (by decide)))
                  have m1846 := m1821.kept (oq _ (gne hr_sf hg1841 (by decide)))
                  have m1847 := m1822.kept (oq _ (gne hr_sto hg1841 (by decide)))
                  have m1848 := m1823.kept (oq _ (gne hr_stp9 hg1841 (by decide)))
                  have m1849 := (el_kept (oq _ (gne hr_o0 hg1841 (by decide)))).trans m1824
                  have m1850 := (el_kept (oq _ (gne hr_o0 hg1841 (by decide)))).trans m1825
                  have m1851 := (el_kept (oq _ (gne hr_o0 hg1841 (by decide)))).trans m1826
                  have m1852 := (el_kept (oq _ (gne hr_o0 hg1841 (by decide)))).trans m1827
                  have m1853 := (el_kept (oq _ (gne hr_o0 hg1841 (by decide)))).trans m1828
                  have m1854 := (el_kept (oq _ (gne hr_o0 hg1841 (by decide)))).trans m1829
                  have m1855 := (el_kept (oq _ (gne hr_o0 hg1841 (by decide)))).trans m1830
                  have m1856 := (el_kept (oq _ (gne hr_lw hg1841 (by decide)))).trans m1831
                  have m1857 := (el_kept (oq _ (gne hr_lw hg1841 (by decide)))).trans m1832
                  have m1858 := (el_kept (oq _ (gne hr_lw hg1841 (by decide)))).trans m1833
                  have m1859 := (el_kept (oq _ (gne hr_lw hg1841 (by decide)))).trans m1834
                  have m1860 := (el_kept (oq _ (gne hr_lw hg1841 (by decide)))).trans m1835
                  have m1861 := (el_kept (oq _ (gne hr_lw hg1841 (by decide)))).trans m1836
                  have m1862 := (el_kept (oq _ (gne hr_o0 hg1841 (by decide)))).trans m1837
                  refine lv_aload_n hx hb dX0_giveFarms_138 rfl (lv_at hl 4 rfl) ?_
                  refine tw_getM (v := .ref hd9) hx hb hts bF2_X0 hown hK hT hr_o0 shc_3 rfl 3 (by decide) (ht_at2 hts 11 rfl) (fun _ h9 => h9) m1850 dX0_giveFarms_139 ?_
                  refine lv_iload hx hb dX0_giveFarms_142 (lv_at hl 0 rfl) ?_
                  refine lv_iconst (v := 1) hx hb dX0_giveFarms_144 (by decide) ?_
                  refine tw_zast (i := r1764) (x := 1) hx hb hK hT hG hS hr_hd9 shc_54 rfl (vin_t (a := r1764.toInt) rfl (by omega) (by omega)) (gi_z (rg_t (a := 1) (by decide) (by first | decide | omega) (by first | decide | omega)) (by decide) (by decide)) dX0_giveFarms_145 (fun H locs hT oq m1866 oi hS => ?_)
                  have hF := hF.ast hr_hd9 skc_54 oq (by decide)
                  have m1867 := m1843.kept (oq _ (gne hr_mk9 hr_hd9 (by decide)))
                  have m1868 := m1844.put (show el H hd9 _ = some (.int 1) from m1866) oi
                  have m1869 := m1845.kept (oq _ (gne hr_kn hr_hd9 (by decide)))
                  have m1870 := m1846.kept (oq _ (gne hr_sf hr_hd9 (by decide)))
                  have m1871 := m1847.kept (oq _ (gne hr_sto hr_hd9 (by decide)))
                  have m1872 := m1848.kept (oq _ (gne hr_stp9 hr_hd9 (by decide)))
                  have m1873 := (el_kept (oq _ (gne hr_o0 hr_hd9 (by decide)))).trans m1849
                  have m1874 := (el_kept (oq _ (gne hr_o0 hr_hd9 (by decide)))).trans m1850
                  have m1875 := (el_kept (oq _ (gne hr_o0 hr_hd9 (by decide)))).trans m1851
                  have m1876 := (el_kept (oq _ (gne hr_o0 hr_hd9 (by decide)))).trans m1852
                  have m1877 := (el_kept (oq _ (gne hr_o0 hr_hd9 (by decide)))).trans m1853
                  have m1878 := (el_kept (oq _ (gne hr_o0 hr_hd9 (by decide)))).trans m1854
                  have m1879 := (el_kept (oq _ (gne hr_o0 hr_hd9 (by decide)))).trans m1855
                  have m1880 := (el_kept (oq _ (gne hr_lw hr_hd9 (by decide)))).trans m1856
                  have m1881 := (el_kept (oq _ (gne hr_lw hr_hd9 (by decide)))).trans m1857
                  have m1882 := (el_kept (oq _ (gne hr_lw hr_hd9 (by decide)))).trans m1858
                  have m1883 := (el_kept (oq _ (gne hr_lw hr_hd9 (by decide)))).trans m1859
                  have m1884 := (el_kept (oq _ (gne hr_lw hr_hd9 (by decide)))).trans m1860
                  have m1885 := (el_kept (oq _ (gne hr_lw hr_hd9 (by decide)))).trans m1861
                  have m1886 := (el_kept (oq _ (gne hr_o0 hr_hd9 (by decide)))).trans m1862
                  obtain ⟨x1891, ex1891⟩ : ∃ y : Int32, y = z1169 + 1 := ⟨_, rfl⟩
                  have t1892 : x1891.toInt = z1169.toInt + 1 := ti_add ex1891 rfl (by decide) (by omega) (by omega)
                  refine lv_iinc (v := x1891) (lv' := [(3, .int x1891), (6, .int r1764), (5, .int r1737), (4, .int (nI i1168)), (0, .ref o0), (1, .int p0), (2, .ref p1)]) hx hb dX0_giveFarms_146 hl (k := 3) rfl (by first | (rw [ex1891]; done) | (rw [ex1891]; rfl)) (by decide) rfl (fun ls hl => ?_)
                  refine lv_iinc (v := nI (i1168 + 1)) (lv' := [(4, .int (nI (i1168 + 1))), (3, .int x1891), (6, .int r1764), (5, .int r1737), (0, .ref o0), (1, .int p0), (2, .ref p1)]) hx hb dX0_giveFarms_149 hl (k := 3) rfl (nI_add i1168 1) (by decide) rfl (fun ls hl => ?_)
                  refine lv_goto (tgt := 81) hx hb dX0_giveFarms_152 (by decide) ?_
                  exact ih1618 (i1168 + 1) (by omega) (by omega) x1891 (cu V1171 r1737.toNatClampNeg (-1 : Int32)) (cu vh r1764.toNatClampNeg (1 : Int32)) ⟨(by have q9 := (show x1891.toInt = x1891.toInt from rfl); (try have q8 := ti_all x1891); omega), ⟨(by have := (show x1891.toInt = x1891.toInt from rfl); rw [zct_1 (by exact hnh _ (by have := tn_of (show r1764.toInt = r1764.toInt from rfl) (by omega); omega)) (by decide) 30 (by have := tn_of (show r1764.toInt = r1764.toInt from rfl) (by omega); omega)]; have := hct1736; omega), Or.inr ⟨by omega, by have := (show x1891.toInt = x1891.toInt from rfl); omega, by omega, hpm1731.yes (by omega) ((hf1760.resolve_left (fun h8 => by have := h8.1; omega)).2.2)⟩⟩, (by have := (show x1891.toInt = x1891.toInt from rfl); omega)⟩ _ _ hT hF (fun h9 => absurd h9 (by omega)) hS m1867 m1868 m1869 m1870 m1871 m1872 m1873 m1874 m1875 m1876 m1877 m1878 m1879 m1880 m1881 m1882 m1883 m1884 m1885 m1886 ls (lv_sub hl [0, 1, 4, 5, 6] rfl)
                · have t1893 : r1764.toInt = (-1) := ti_eq c1815 rfl (by decide)
                  refine lv_goto (tgt := 155) hx hb dX0_giveFarms_115 (by decide) ?_
                  refine lv_aload_n hx hb dX0_giveFarms_155 rfl (lv_at hl 4 rfl) ?_
                  refine lv_dup hx hb dX0_giveFarms_156 rfl ?_
                  refine tw_getM (v := .int hl) hx hb hts bF2_X0 hown hK hT hr_o0 shc_3 rfl 15 (by decide) (ht_at2 hts 1 rfl) (fun _ h9 => h9) m1777 dX0_giveFarms_157 ?_
                  refine lv_iload_n hx hb dX0_giveFarms_160 rfl (lv_at hl 3 rfl) ?_
                  refine lv_iadd hx hb dX0_giveFarms_161 ?_
                  refine lv_topi (fun x1894 ex1894 => ?_)
                  have t1895 : x1894.toInt = hl.toInt + z1169.toInt := ti_add ex1894 rfl rfl (by omega) (by omega)
                  refine tw_put (v := .int x1894) (ty := .int) hx hb hts bF2_X0 tyX0 tyX0_ok nmX0 hown hK hT hG hS hr_o0 shc_3 rfl 15 (by decide) (ht_at2 hts 1 rfl) (fun _ h9 => h9) rfl (by decide +kernel) rfl rfl (gl_at rfl (gi_all _)) dX0_giveFarms_162 (fun H locs hT oq m1896 oj hS => ?_)
                  have hF := hF.put hr_o0 skc_3 oq oj (by decide)
                  have hF2 := hF2.put hr_o0 skc_3 oq oj (by decide)
                  have m1898 := m1767.kept (oq _ (gne hr_hd9 hr_o0 (by decide)))
                  refine lv_iload_n hx hb dX0_giveFarms_165 rfl (lv_at hl 3 rfl) ?_
                  exact W.iret (v := z1169) hx hb hr (fun t ht hW => ⟨⟨z1169, (x1894, vh), rfl, (by exact ⟨(by have q8 := ti_all z1169; omega), (by have r9 := (show z1169.toInt = z1169.toInt from rfl); exact Or.inr ⟨by omega, fun h8 => by have := h8.2.1; have n9 := h8.2.2; rcases hf1760 with ⟨h7, h6⟩ | ⟨h7, h6, h5⟩; (exact (hpm1731.no (by omega) h6) n9); omega, rfl⟩), (by have := (show x1894.toInt = x1894.toInt from rfl); have := (show z1169.toInt = z1169.toInt from rfl); have := hct1736; exact ⟨by omega, by omega⟩)⟩), by (try dsimp only); rw [ht]; exact ⟨hT, hF, m1896, m1898, (fun _ => hF2)⟩⟩, hS.F ht⟩) hS.2.2 dX0_giveFarms_166
            · refine lv_aload_n hx hb dX0_giveFarms_87 rfl (lv_at hl 2 rfl) ?_
              have hFc := gA_free hG hA hS
              refine va_calli (va_runV (As := []) (rest := []) ⟨hx, hb, hml, hown, hts⟩ (c_firstByMark l dC dI kA adK adV G H nC nS o0 hT hr_o0 (by omega) (by omega)) (cwV 0 hts (goodIn_app (goodIn_r _ [6, 7, 8, 9] rfl (by decide +kernel)) (goodIn_ca (goodIn_r _ [3, 1, 4, 5] rfl (by decide +kernel)) (bs2_in _ _))) rfl rfl rfl (by decide +kernel) ⟨(Nat.le_of_ble_eq_true rfl), (Nat.le_of_ble_eq_true rfl)⟩) ⟨fun a U g mk q => by obtain ⟨q0, q1, qK, qE⟩ := q; exact ⟨q0, q1, va_K.moved (u := U) (U := U.calling g mk a) (Vm.Alike.refl U.vm) qK, EVC.blind g mk a qE⟩, gH_rc hK hT hr_o0 shc_3 rfl, fun U hU hW => ⟨rfl, hU, va_K.moved hW.alike hK, hE.call hS hFc hU hW⟩⟩ rfl rfl hl.1 rfl (lv_room (Nat.le_of_ble_eq_true rfl)) dX0_giveFarms_88 ⟨(Nat.le_of_ble_eq_true rfl), (Nat.le_of_ble_eq_true rfl)⟩) hS (fun q _ h => hFc q h) hFc (fun r1917 u t H locs ht hvm hw1918 hB _ _ hS => ?_)
              obtain ⟨hT, hF1⟩ := hB
              rw [ht] at hT hF1
              have m1919 := m1172.kept (hF1.arr hr_mk9 skc_57 (by decide))
              have m1920 := m1174.kept (hF1.arr hr_hd9 skc_54 (by decide))
              have m1921 := m1175.kept (hF1.arr hr_kn skc_42 (by decide))
              have m1922 := m1176.kept (hF1.arr hr_sf skc_47 (by decide))
              have m1923 := m1177.kept (hF1.arr hr_sto skc_48 (by decide))
              have m1924 := m1178.kept (hF1.arr hr_stp9 skc_49 (by decide))
              have m1925 := (hF1.fld hr_o0 skc_3 (k := 6) (by decide) (by decide)).trans m1179
              have m1926 := (hF1.fld hr_o0 skc_3 (k := 3) (by decide) (by decide)).trans m1180
              have m1927 := (hF1.fld hr_o0 skc_3 (k := 0) (by decide) (by decide)).trans m1181
              have m1928 := (hF1.fld hr_o0 skc_3 (k := 16) (by decide) (by decide)).trans m1182
              have m1929 := (hF1.fld hr_o0 skc_3 (k := 5) (by decide) (by decide)).trans m1183
              have m1930 := (hF1.fld hr_o0 skc_3 (k := 15) (by decide) (by decide)).trans m1184
              have m1931 := (hF1.fld hr_o0 skc_3 (k := 7) (by decide) (by decide)).trans m1185
              have m1932 := (hF1.fld hr_lw skc_7 (k := 2) (by decide) (by decide)).trans m1186
              have m1933 := (hF1.fld hr_lw skc_7 (k := 11) (by decide) (by decide)).trans m1187
              have m1934 := (hF1.fld hr_lw skc_7 (k := 7) (by decide) (by decide)).trans m1188
              have m1935 := (hF1.fld hr_lw skc_7 (k := 8) (by decide) (by decide)).trans m1189
              have m1936 := (hF1.fld hr_lw skc_7 (k := 9) (by decide) (by decide)).trans m1190
              have m1937 := (hF1.fld hr_lw skc_7 (k := 10) (by decide) (by decide)).trans m1191
              have m1938 := (hF1.fld hr_o0 skc_3 (k := 14) (by decide) (by decide)).trans m1192
              have hF := hF.more hF1 (by decide)
              try dsimp only at hw1918
              obtain ⟨h1939, hf1940⟩ := hw1918
              refine lv_istore (lv' := [(5, .int r1917), (4, .int (nI i1168)), (3, .int z1169), (0, .ref o0), (1, .int p0), (2, .ref p1)]) hx hb dX0_giveFarms_91 hl (by decide) rfl (fun ls hl => ?_)
              refine lv_aload_n hx hb dX0_giveFarms_93 rfl (lv_at hl 3 rfl) ?_
              refine lv_aload_n hx hb dX0_giveFarms_94 rfl (lv_at hl 5 rfl) ?_
              refine tw_getN hx hb hts bF2_X3 hown hK hT hr_p1 shc_6 rfl 1 (by decide) (hE.nw 73 rfl) (fun _ h9 => h9) dX0_giveFarms_95 (fun v9 m1941 h9 => ?_)
              obtain ⟨b1942, rfl, hg1943⟩ := h9 _ rfl
              have hFc := gA_free hG hA hS
              refine va_calli (va_runV (As := [.ref b1942]) (rest := []) ⟨hx, hb, hml, hown, hts⟩ (c_bestFreeFarmH l dC dI kA adK adV G H nC nS o0 b1942 hd9 V1173 hT hg1943 hr_o0 m1926 hr_hd9 m1920 (by omega) (by omega)) (cwV 1 hts (goodIn_app (goodIn_r _ [22, 23, 24, 9] rfl (by decide +kernel)) (goodIn_ca (goodIn_r _ [10, 11, 12, 13, 14, 15, 16, 17, 18, 19, 20, 21, 9] rfl (by decide +kernel)) (bs2_in _ _))) rfl rfl rfl (by decide +kernel) ⟨(Nat.le_of_ble_eq_true rfl), (Nat.le_of_ble_eq_true rfl)⟩) ⟨fun a U g mk q => by obtain ⟨q0, q1, qK, qE⟩ := q; exact ⟨q0, q1, va_K.moved (u := U) (U := U.calling g mk a) (Vm.Alike.refl U.vm) qK, EVC.blind g mk a qE⟩, gH_rc hK hT hr_o0 shc_3 rfl, fun U hU hW => ⟨rfl, hU, va_K.moved hW.alike hK, hE.call hS hFc hU hW⟩⟩ rfl rfl hl.1 rfl (lv_room (Nat.le_of_ble_eq_true rfl)) dX0_giveFarms_98 ⟨(Nat.le_of_ble_eq_true rfl), (Nat.le_of_ble_eq_true rfl)⟩) hS (fun q _ h => hFc q h) hFc (fun r1944 u t H locs ht hvm hw1945 hB _ _ hS => ?_)
              obtain ⟨hT, hF1⟩ := hB
              rw [ht] at hT hF1
              have m1946 := m1919.kept (hF1.arr hr_mk9 skc_57 (by decide))
              have m1947 := m1920.kept (hF1.arr hr_hd9 skc_54 (by decide))
              have m1948 := m1921.kept (hF1.arr hr_kn skc_42 (by decide))
              have m1949 := m1922.kept (hF1.arr hr_sf skc_47 (by decide))
              have m1950 := m1923.kept (hF1.arr hr_sto skc_48 (by decide))
              have m1951 := m1924.kept (hF1.arr hr_stp9 skc_49 (by decide))
              have m1952 := (hF1.fld hr_o0 skc_3 (k := 6) (by decide) (by decide)).trans m1925
              have m1953 := (hF1.fld hr_o0 skc_3 (k := 3) (by decide) (by decide)).trans m1926
              have m1954 := (hF1.fld hr_o0 skc_3 (k := 0) (by decide) (by decide)).trans m1927
              have m1955 := (hF1.fld hr_o0 skc_3 (k := 16) (by decide) (by decide)).trans m1928
              have m1956 := (hF1.fld hr_o0 skc_3 (k := 5) (by decide) (by decide)).trans m1929
              have m1957 := (hF1.fld hr_o0 skc_3 (k := 15) (by decide) (by decide)).trans m1930
              have m1958 := (hF1.fld hr_o0 skc_3 (k := 7) (by decide) (by decide)).trans m1931
              have m1959 := (hF1.fld hr_lw skc_7 (k := 2) (by decide) (by decide)).trans m1932
              have m1960 := (hF1.fld hr_lw skc_7 (k := 11) (by decide) (by decide)).trans m1933
              have m1961 := (hF1.fld hr_lw skc_7 (k := 7) (by decide) (by decide)).trans m1934
              have m1962 := (hF1.fld hr_lw skc_7 (k := 8) (by decide) (by decide)).trans m1935
              have m1963 := (hF1.fld hr_lw skc_7 (k := 9) (by decide) (by decide)).trans m1936
              have m1964 := (hF1.fld hr_lw skc_7 (k := 10) (by decide) (by decide)).trans m1937
              have m1965 := (hF1.fld hr_o0 skc_3 (k := 14) (by decide) (by decide)).trans m1938
              have hF := hF.more hF1 (by decide)
              try dsimp only at hw1945
              obtain ⟨h1967, hf1968⟩ := hw1945
              refine lv_istore (lv' := [(6, .int r1944), (5, .int r1917), (4, .int (nI i1168)), (3, .int z1169), (0, .ref o0), (1, .int p0), (2, .ref p1)]) hx hb dX0_giveFarms_101 hl (by decide) rfl (fun ls hl => ?_)
              refine lv_iload hx hb dX0_giveFarms_103 (lv_at hl 1 rfl) ?_
              refine lv_iconst (v := (-1)) hx hb dX0_giveFarms_105 (by decide) ?_
              refine lv_icmp_eq (tgt := 155) hx hb dX0_giveFarms_106 (by decide) (fun c1969 => ?_) (fun c1969 => ?_)
              · have t1970 : r1917.toInt = (-1) := ti_eq c1969 rfl (by decide)
                refine lv_aload_n hx hb dX0_giveFarms_155 rfl (lv_at hl 4 rfl) ?_
                refine lv_dup hx hb dX0_giveFarms_156 rfl ?_
                refine tw_getM (v := .int hl) hx hb hts bF2_X0 hown hK hT hr_o0 shc_3 rfl 15 (by decide) (ht_at2 hts 1 rfl) (fun _ h9 => h9) m1957 dX0_giveFarms_157 ?_
                refine lv_iload_n hx hb dX0_giveFarms_160 rfl (lv_at hl 3 rfl) ?_
                refine lv_iadd hx hb dX0_giveFarms_161 ?_
                refine lv_topi (fun x1971 ex1971 => ?_)
                have t1972 : x1971.toInt = hl.toInt + z1169.toInt := ti_add ex1971 rfl rfl (by omega) (by omega)
                refine tw_put (v := .int x1971) (ty := .int) hx hb hts bF2_X0 tyX0 tyX0_ok nmX0 hown hK hT hG hS hr_o0 shc_3 rfl 15 (by decide) (ht_at2 hts 1 rfl) (fun _ h9 => h9) rfl (by decide +kernel) rfl rfl (gl_at rfl (gi_all _)) dX0_giveFarms_162 (fun H locs hT oq m1973 oj hS => ?_)
                have hF := hF.put hr_o0 skc_3 oq oj (by decide)
                have m1975 := m1947.kept (oq _ (gne hr_hd9 hr_o0 (by decide)))
                refine lv_iload_n hx hb dX0_giveFarms_165 rfl (lv_at hl 3 rfl) ?_
                exact W.iret (v := z1169) hx hb hr (fun t ht hW => ⟨⟨z1169, (x1971, V1173), rfl, (by exact ⟨(by have q8 := ti_all z1169; omega), (by have r9 := (show z1169.toInt = z1169.toInt from rfl); exact Or.inl ⟨by omega, ⟨by omega, by omega⟩, hfm1734, hno1735⟩), (by have := (show x1971.toInt = x1971.toInt from rfl); have := (show z1169.toInt = z1169.toInt from rfl); have := hct1736; exact ⟨by omega, by omega⟩)⟩), by (try dsimp only); rw [ht]; exact ⟨hT, hF, m1973, m1975, (fun h9 => by exfalso; have h8 := congrArg Int32.toInt h9; have z8 : (0 : Int32).toInt = 0 := (by decide); have := (show x1971.toInt = x1971.toInt from rfl); omega)⟩⟩, hS.F ht⟩) hS.2.2 dX0_giveFarms_166
              · have t1994 : r1917.toInt ≠ (-1) := ti_ne c1969 rfl (by decide)
                refine lv_iload hx hb dX0_giveFarms_109 (lv_at hl 0 rfl) ?_
                refine lv_iconst (v := (-1)) hx hb dX0_giveFarms_111 (by decide) ?_
                refine lv_icmp_ne (tgt := 118) hx hb dX0_giveFarms_112 (by decide) (fun c1995 => ?_) (fun c1995 => ?_)
                · have t1996 : r1944.toInt ≠ (-1) := ti_ne c1995 rfl (by decide)
                  refine lv_aload_n hx hb dX0_giveFarms_118 rfl (lv_at hl 4 rfl) ?_
                  refine tw_getM (v := .ref mk9) hx hb hts bF2_X0 hown hK hT hr_o0 shc_3 rfl 6 (by decide) (ht_at2 hts 3 rfl) (fun _ h9 => h9) m1952 dX0_giveFarms_119 ?_
                  refine lv_iload hx hb dX0_giveFarms_122 (lv_at hl 1 rfl) ?_
                  refine lv_iconst (v := (-1)) hx hb dX0_giveFarms_124 (by decide) ?_
                  refine tw_iast (i := r1917) (x := (-1)) hx hb hK hT hG hS hr_mk9 shc_57 rfl (vin_t (a := r1917.toInt) rfl (by omega) (by omega)) (gi_all _) dX0_giveFarms_125 (fun H locs hT oq m1997 oi hS => ?_)
                  have hF := hF.ast hr_mk9 skc_57 oq (by decide)
                  have m1998 := m1946.put m1997 oi
                  have m1999 := m1947.kept (oq _ (gne hr_hd9 hr_mk9 (by decide)))
                  have m2000 := m1948.kept (oq _ (gne hr_kn hr_mk9 (by decide)))
                  have m2001 := m1949.kept (oq _ (gne hr_sf hr_mk9 (by decide)))
                  have m2002 := m1950.kept (oq _ (gne hr_sto hr_mk9 (by decide)))
                  have m2003 := m1951.kept (oq _ (gne hr_stp9 hr_mk9 (by decide)))
                  have m2004 := (el_kept (oq _ (gne hr_o0 hr_mk9 (by decide)))).trans m1952
                  have m2005 := (el_kept (oq _ (gne hr_o0 hr_mk9 (by decide)))).trans m1953
                  have m2006 := (el_kept (oq _ (gne hr_o0 hr_mk9 (by decide)))).trans m1954
                  have m2007 := (el_kept (oq _ (gne hr_o0 hr_mk9 (by decide)))).trans m1955
                  have m2008 := (el_kept (oq _ (gne hr_o0 hr_mk9 (by decide)))).trans m1956
                  have m2009 := (el_kept (oq _ (gne hr_o0 hr_mk9 (by decide)))).trans m1957
                  have m2010 := (el_kept (oq _ (gne hr_o0 hr_mk9 (by decide)))).trans m1958
                  have m2011 := (el_kept (oq _ (gne hr_lw hr_mk9 (by decide)))).trans m1959
                  have m2012 := (el_kept (oq _ (gne hr_lw hr_mk9 (by decide)))).trans m1960
                  have m2013 := (el_kept (oq _ (gne hr_lw hr_mk9 (by decide)))).trans m1961
                  have m2014 := (el_kept (oq _ (gne hr_lw hr_mk9 (by decide)))).trans m1962
                  have m2015 := (el_kept (oq _ (gne hr_lw hr_mk9 (by decide)))).trans m1963
                  have m2016 := (el_kept (oq _ (gne hr_lw hr_mk9 (by decide)))).trans m1964
                  have m2017 := (el_kept (oq _ (gne hr_o0 hr_mk9 (by decide)))).trans m1965
                  refine lv_aload_n hx hb dX0_giveFarms_126 rfl (lv_at hl 4 rfl) ?_
                  refine tw_getM (v := .ref sA) hx hb hts bF2_X0 hown hK hT hr_o0 shc_3 rfl 0 (by decide) (ht_at2 hts 4 rfl) (fun _ h9 => h9) m2006 dX0_giveFarms_127 ?_
                  refine lv_iload hx hb dX0_giveFarms_130 (lv_at hl 1 rfl) ?_
                  refine tw_aald (i := r1917) hx hb hK hT hr_sA shc_51 rfl (vin_t (a := r1917.toInt) rfl (by omega) (by omega)) dX0_giveFarms_132 (fun v9 m2019 h9 => ?_)
                  obtain ⟨b2020, rfl, hg2021⟩ := (h9.1 (by have q9 := tn_of (show r1917.toInt = r1917.toInt from rfl) (by omega); omega))
                  refine lv_iload hx hb dX0_giveFarms_133 (lv_at hl 0 rfl) ?_
                  refine tw_putN (v := .int r1944) (ty := .int) hx hb hts bF2_X7 tyX7 tyX7_ok nmX7 hown hK hT hG hS hg2021 shc_10 rfl 7 (by decide) (hE.nw 61 rfl) (fun _ h9 => h9) rfl (by decide +kernel) rfl rfl (gl_at rfl (gi_of (show r1944.toInt = r1944.toInt from rfl) (by omega) (by omega))) dX0_giveFarms_135 (fun H locs hT oq m2022 oj hS => ?_)
                  have hF := hF.put hg2021 skc_10 oq oj (by decide)
                  have m2023 := m1998.kept (oq _ (gne hr_mk9 hg2021 (by decide)))
                  have m2024 := m1999.kept (oq _ (gne hr_hd9 hg2021 (by decide)))
                  have m2025 := m2000.kept (oq _ (gne hr_kn hg2021 (by decide)))
                  have m2026 := m2001.kept (oq _ (gne hr_sf hg2021 (by decide)))
                  have m2027 := m2002.kept (oq _ (gne hr_sto hg2021 (by decide)))
                  have m2028 := m2003.kept (oq _ (gne hr_stp9 hg2021 (by decide)))
                  have m2029 := (el_kept (oq _ (gne hr_o0 hg2021 (by decide)))).trans m2004
                  have m2030 := (el_kept (oq _ (gne hr_o0 hg2021 (by decide)))).trans m2005
                  have m2031 := (el_kept (oq _ (gne hr_o0 hg2021 (by decide)))).trans m2006
                  have m2032 := (el_kept (oq _ (gne hr_o0 hg2021 (by decide)))).trans m2007
                  have m2033 := (el_kept (oq _ (gne hr_o0 hg2021 (by decide)))).trans m2008
                  have m2034 := (el_kept (oq _ (gne hr_o0 hg2021 (by decide)))).trans m2009
                  have m2035 := (el_kept (oq _ (gne hr_o0 hg2021 (by decide)))).trans m2010
                  have m2036 := (el_kept (oq _ (gne hr_lw hg2021 (by decide)))).trans m2011
                  have m2037 := (el_kept (oq _ (gne hr_lw hg2021 (by decide)))).trans m2012
                  have m2038 := (el_kept (oq _ (gne hr_lw hg2021 (by decide)))).trans m2013
                  have m2039 := (el_kept (oq _ (gne hr_lw hg2021 (by decide)))).trans m2014
                  have m2040 := (el_kept (oq _ (gne hr_lw hg2021 (by decide)))).trans m2015
                  have m2041 := (el_kept (oq _ (gne hr_lw hg2021 (by decide)))).trans m2016
                  have m2042 := (el_kept (oq _ (gne hr_o0 hg2021 (by decide)))).trans m2017
                  refine lv_aload_n hx hb dX0_giveFarms_138 rfl (lv_at hl 4 rfl) ?_
                  refine tw_getM (v := .ref hd9) hx hb hts bF2_X0 hown hK hT hr_o0 shc_3 rfl 3 (by decide) (ht_at2 hts 11 rfl) (fun _ h9 => h9) m2030 dX0_giveFarms_139 ?_
                  refine lv_iload hx hb dX0_giveFarms_142 (lv_at hl 0 rfl) ?_
                  refine lv_iconst (v := 1) hx hb dX0_giveFarms_144 (by decide) ?_
                  refine tw_zast (i := r1944) (x := 1) hx hb hK hT hG hS hr_hd9 shc_54 rfl (vin_t (a := r1944.toInt) rfl (by omega) (by omega)) (gi_z (rg_t (a := 1) (by decide) (by first | decide | omega) (by first | decide | omega)) (by decide) (by decide)) dX0_giveFarms_145 (fun H locs hT oq m2046 oi hS => ?_)
                  have hF := hF.ast hr_hd9 skc_54 oq (by decide)
                  have m2047 := m2023.kept (oq _ (gne hr_mk9 hr_hd9 (by decide)))
                  have m2048 := m2024.put (show el H hd9 _ = some (.int 1) from m2046) oi
                  have m2049 := m2025.kept (oq _ (gne hr_kn hr_hd9 (by decide)))
                  have m2050 := m2026.kept (oq _ (gne hr_sf hr_hd9 (by decide)))
                  have m2051 := m2027.kept (oq _ (gne hr_sto hr_hd9 (by decide)))
                  have m2052 := m2028.kept (oq _ (gne hr_stp9 hr_hd9 (by decide)))
                  have m2053 := (el_kept (oq _ (gne hr_o0 hr_hd9 (by decide)))).trans m2029
                  have m2054 := (el_kept (oq _ (gne hr_o0 hr_hd9 (by decide)))).trans m2030
                  have m2055 := (el_kept (oq _ (gne hr_o0 hr_hd9 (by decide)))).trans m2031
                  have m2056 := (el_kept (oq _ (gne hr_o0 hr_hd9 (by decide)))).trans m2032
                  have m2057 := (el_kept (oq _ (gne hr_o0 hr_hd9 (by decide)))).trans m2033
                  have m2058 := (el_kept (oq _ (gne hr_o0 hr_hd9 (by decide)))).trans m2034
                  have m2059 := (el_kept (oq _ (gne hr_o0 hr_hd9 (by decide)))).trans m2035
                  have m2060 := (el_kept (oq _ (gne hr_lw hr_hd9 (by decide)))).trans m2036
                  have m2061 := (el_kept (oq _ (gne hr_lw hr_hd9 (by decide)))).trans m2037
                  have m2062 := (el_kept (oq _ (gne hr_lw hr_hd9 (by decide)))).trans m2038
                  have m2063 := (el_kept (oq _ (gne hr_lw hr_hd9 (by decide)))).trans m2039
                  have m2064 := (el_kept (oq _ (gne hr_lw hr_hd9 (by decide)))).trans m2040
                  have m2065 := (el_kept (oq _ (gne hr_lw hr_hd9 (by decide)))).trans m2041
                  have m2066 := (el_kept (oq _ (gne hr_o0 hr_hd9 (by decide)))).trans m2042
                  obtain ⟨x2071, ex2071⟩ : ∃ y : Int32, y = z1169 + 1 := ⟨_, rfl⟩
                  have t2072 : x2071.toInt = z1169.toInt + 1 := ti_add ex2071 rfl (by decide) (by omega) (by omega)
                  refine lv_iinc (v := x2071) (lv' := [(3, .int x2071), (6, .int r1944), (5, .int r1917), (4, .int (nI i1168)), (0, .ref o0), (1, .int p0), (2, .ref p1)]) hx hb dX0_giveFarms_146 hl (k := 3) rfl (by first | (rw [ex2071]; done) | (rw [ex2071]; rfl)) (by decide) rfl (fun ls hl => ?_)
                  refine lv_iinc (v := nI (i1168 + 1)) (lv' := [(4, .int (nI (i1168 + 1))), (3, .int x2071), (6, .int r1944), (5, .int r1917), (0, .ref o0), (1, .int p0), (2, .ref p1)]) hx hb dX0_giveFarms_149 hl (k := 3) rfl (nI_add i1168 1) (by decide) rfl (fun ls hl => ?_)
                  refine lv_goto (tgt := 81) hx hb dX0_giveFarms_152 (by decide) ?_
                  exact ih1618 (i1168 + 1) (by omega) (by omega) x2071 (cu V1171 r1917.toNatClampNeg (-1 : Int32)) (cu V1173 r1944.toNatClampNeg (1 : Int32)) ⟨(by have q9 := (show x2071.toInt = x2071.toInt from rfl); (try have q8 := ti_all x2071); omega), ⟨(by have := (show x2071.toInt = x2071.toInt from rfl); rw [zct_1 (by exact (hf1968.resolve_left (fun h8 => by omega)).2.2) (by decide) 30 (by have := tn_of (show r1944.toInt = r1944.toInt from rfl) (by omega); omega)]; have := hct1736; omega), Or.inr ⟨by omega, by have := (show x2071.toInt = x2071.toInt from rfl); omega, hfm1734, hno1735⟩⟩, (by have := (show x2071.toInt = x2071.toInt from rfl); omega)⟩ _ _ hT hF (fun h9 => absurd h9 (by omega)) hS m2047 m2048 m2049 m2050 m2051 m2052 m2053 m2054 m2055 m2056 m2057 m2058 m2059 m2060 m2061 m2062 m2063 m2064 m2065 m2066 ls (lv_sub hl [0, 1, 4, 5, 6] rfl)
                · have t2073 : r1944.toInt = (-1) := ti_eq c1995 rfl (by decide)
                  refine lv_goto (tgt := 155) hx hb dX0_giveFarms_115 (by decide) ?_
                  refine lv_aload_n hx hb dX0_giveFarms_155 rfl (lv_at hl 4 rfl) ?_
                  refine lv_dup hx hb dX0_giveFarms_156 rfl ?_
                  refine tw_getM (v := .int hl) hx hb hts bF2_X0 hown hK hT hr_o0 shc_3 rfl 15 (by decide) (ht_at2 hts 1 rfl) (fun _ h9 => h9) m1957 dX0_giveFarms_157 ?_
                  refine lv_iload_n hx hb dX0_giveFarms_160 rfl (lv_at hl 3 rfl) ?_
                  refine lv_iadd hx hb dX0_giveFarms_161 ?_
                  refine lv_topi (fun x2074 ex2074 => ?_)
                  have t2075 : x2074.toInt = hl.toInt + z1169.toInt := ti_add ex2074 rfl rfl (by omega) (by omega)
                  refine tw_put (v := .int x2074) (ty := .int) hx hb hts bF2_X0 tyX0 tyX0_ok nmX0 hown hK hT hG hS hr_o0 shc_3 rfl 15 (by decide) (ht_at2 hts 1 rfl) (fun _ h9 => h9) rfl (by decide +kernel) rfl rfl (gl_at rfl (gi_all _)) dX0_giveFarms_162 (fun H locs hT oq m2076 oj hS => ?_)
                  have hF := hF.put hr_o0 skc_3 oq oj (by decide)
                  have m2078 := m1947.kept (oq _ (gne hr_hd9 hr_o0 (by decide)))
                  refine lv_iload_n hx hb dX0_giveFarms_165 rfl (lv_at hl 3 rfl) ?_
                  exact W.iret (v := z1169) hx hb hr (fun t ht hW => ⟨⟨z1169, (x2074, V1173), rfl, (by exact ⟨(by have q8 := ti_all z1169; omega), (by have r9 := (show z1169.toInt = z1169.toInt from rfl); exact Or.inl ⟨by omega, ⟨by omega, by omega⟩, hfm1734, hno1735⟩), (by have := (show x2074.toInt = x2074.toInt from rfl); have := (show z1169.toInt = z1169.toInt from rfl); have := hct1736; exact ⟨by omega, by omega⟩)⟩), by (try dsimp only); rw [ht]; exact ⟨hT, hF, m2076, m2078, (fun h9 => by exfalso; have h8 := congrArg Int32.toInt h9; have z8 : (0 : Int32).toInt = 0 := (by decide); have := (show x2074.toInt = x2074.toInt from rfl); omega)⟩⟩, hS.F ht⟩) hS.2.2 dX0_giveFarms_166
      exact key1618 (60 - 0) 0 (by omega) (Nat.le_refl _) 0 V2 vh ⟨(by have q9 := (show (0 : Int32).toInt = 0 from (by decide)); (try have q8 := ti_all (0 : Int32)); omega), ⟨hct, Or.inl ⟨by omega, by decide, rfl, by rw [show nS.toNat = 60 from by omega]; exact hj22⟩⟩, (by have := (show (0 : Int32).toInt = 0 from (by decide)); omega)⟩ _ _ hT hF (fun _ => hF2) hS m3 m4 m5 m6 m7 m8 m9 m10 m11 m12 m13 m14 m15 m16 m17 m18 m19 m20 m21 m1164 ls (lv_sub hl [0, 1, 2, 3, 4] rfl)
    | succ n1162 ih1162 =>
      intro i1 hn1162 hlo1163 V2 ⟨hj22, hj23⟩ H locs hT hF hF2 hS m3 m4 m5 m6 m7 m8 m9 m10 m11 m12 m13 m14 m15 m16 m17 m18 m19 m20 m21 ls hl
      have hlt2096 : i1 < 60 := by omega
      refine lv_iload_n hx hb dX0_giveFarms_2 rfl (lv_at hl 0 rfl) ?_
      refine lv_aload_n hx hb dX0_giveFarms_3 rfl (lv_at hl 1 rfl) ?_
      refine tw_get hx hb hts bF2_X0 hown hK hT hr_o0 shc_3 rfl 14 (by decide) (ht_at2 hts 0 rfl) (fun _ h9 => h9) dX0_giveFarms_4 (fun v9 m2097 h9 => ?_)
      obtain ⟨x2098, rfl, gx2098, kx2098⟩ := h9 _ rfl
      refine lv_icmp_ge (tgt := 76) hx hb dX0_giveFarms_7 (by decide) (fun c2099 => ?_) (fun c2099 => ?_)
      · have t2100 : x2098.toInt ≤ ((i1 : Nat) : Int) := ti_le c2099 rfl (nI_toInt (by omega))
        refine lv_iconst (v := 0) hx hb dX0_giveFarms_76 (by decide) ?_
        refine lv_istore_n (lv' := [(3, .int 0), (0, .ref o0), (1, .int p0), (2, .ref p1)]) hx hb dX0_giveFarms_77 rfl hl (by decide) rfl (fun ls hl => ?_)
        refine lv_iconst (v := 0) hx hb dX0_giveFarms_78 (by decide) ?_
        refine lv_istore (lv' := [(4, .int 0), (3, .int 0), (0, .ref o0), (1, .int p0), (2, .ref p1)]) hx hb dX0_giveFarms_79 hl (by decide) rfl (fun ls hl => ?_)
        have key2551 : ∀ (n2551 i2101 : Nat), i2101 + n2551 = 60 → 0 ≤ i2101 → ∀ (z2102 : Int32), ∀ (V2104 : Nat → Int32), ∀ (V2106 : Nat → Int32), ((0 ≤ z2102.toInt ∧ z2102.toInt ≤ 60) ∧ ((zct V2106 30 = z2102.toInt) ∧ ((((i2101 : Nat) : Int) = 0 ∧ z2102.toInt = 0 ∧ vh = V2106 ∧ zPm (zLs (fun _ => 0) vA vD vC vU vI vW (fun _ => 0)) A9 V2104 nS.toNat) ∨ (1 ≤ ((i2101 : Nat) : Int) ∧ 1 ≤ z2102.toInt ∧ 0 < fm.toInt ∧ zNO (zLs (fun _ => 0) vA vD vC vU vI vW (fun _ => 0)) A9 nS))) ∧ (0 ≤ z2102.toInt ∧ z2102.toInt ≤ ((i2101 : Nat) : Int))) → ∀ (H : Heap) (locs : List Loc), gH (dC, dI) kA (SHc nC nS) G H → gF (dC, dI) SKc G ([(3, 15), (10, 7), (50, 0), (54, 0), (56, 0), (57, 0)] : List (Nat × Nat)) s.heap H → (i2101 = 0 → gF (dC, dI) SKc G ([(3, 15), (50, 0), (56, 0), (57, 0)] : List (Nat × Nat)) s.heap H) → va_S A s.heap H locs → ct H mk9 60 V2104 → ct H hd9 30 V2106 → ct H kn 20 vK → ct H sf 20 vF → ct H sto 20 vT → ct H stp9 400 vS → el H o0 (dI 3 6) = some (.ref mk9) → el H o0 (dI 3 3) = some (.ref hd9) → el H o0 (dI 3 0) = some (.ref sA) → el H o0 (dI 3 16) = some (.int fm) → el H o0 (dI 3 5) = some (.ref fa9) → el H o0 (dI 3 15) = some (.int hl) → el H o0 (dI 3 7) = some (.ref lw) → el H lw (dI 7 2) = some (.ref kn) → el H lw (dI 7 11) = some (.int ln) → el H lw (dI 7 7) = some (.ref sf) → el H lw (dI 7 8) = some (.ref sto) → el H lw (dI 7 9) = some (.ref stp9) → el H lw (dI 7 10) = some (.ref stk) → el H o0 (dI 3 14) = some (.int x2098) → ∀ ls : Array Slot, lv_has ls 7 [(4, .int (nI i2101)), (3, .int z2102), (0, .ref o0), (1, .int p0), (2, .ref p1)] → W p l e (headSpec w_c_giveFarmsZ ({ frames := 5, cells := 0, slots := 0, locals := 135 })).room s m #[.ref o0, .int p0, .ref p1] below meth c H locs 0 0 (MQ below (va_Qi (fun (r : Int32) (u : Int32 × (Nat → Int32)) => match u with | (hl1, vh1) => (0 ≤ r.toInt ∧ r.toInt ≤ 60) ∧ ((0 < r.toInt ∧ ((1 ≤ p0.toInt ∧ p0.toInt ≤ 60) ∧ 0 < fm.toInt ∧ zNO (zLs (fun _ => 0) vA vD vC vU vI vW (fun _ => 0)) A9 nS)) ∨ (r.toInt = 0 ∧ ¬ ((1 ≤ p0.toInt ∧ p0.toInt ≤ 60) ∧ 0 < fm.toInt ∧ zNO (zLs (fun _ => 0) vA vD vC vU vI vW (fun _ => 0)) A9 nS) ∧ vh = vh1)) ∧ (hl1.toInt = r.toInt ∧ zct vh1 30 = hl1.toInt)) (fun (u : Int32 × (Nat → Int32)) (t : State) => match u with | (hl1, vh1) => gH (dC, dI) kA (SHc nC nS) G t.heap ∧ gF (dC, dI) SKc G ([(3, 15), (10, 7), (50, 0), (54, 0), (56, 0), (57, 0)] : List (Nat × Nat)) s.heap t.heap ∧ el t.heap o0 (dI 3 15) = some (.int hl1) ∧ ct t.heap hd9 30 vh1 ∧ (hl1 = 0 → gF (dC, dI) SKc G ([(3, 15), (50, 0), (56, 0), (57, 0)] : List (Nat × Nat)) s.heap t.heap)) A) #[.ref o0, .int p0, .ref p1] s 0 0 A) (F0 m 81 ls []) := by
          intro n2551
          induction n2551 with
          | zero =>
            intro i2101 hn2551 hlo2552 z2102 V2104 V2106 ⟨h2103, hj2126, hj2127⟩ H locs hT hF hF3 hS m2105 m2107 m2108 m2109 m2110 m2111 m2112 m2113 m2114 m2115 m2116 m2117 m2118 m2119 m2120 m2121 m2122 m2123 m2124 m2125 ls hl
            obtain rfl : 60 = i2101 := by omega
            refine lv_iload hx hb dX0_giveFarms_81 (lv_at hl 0 rfl) ?_
            refine lv_iload_n hx hb dX0_giveFarms_83 rfl (lv_at hl 3 rfl) ?_
            refine lv_icmp_ge (tgt := 155) hx hb dX0_giveFarms_84 (by decide) (fun c2553 => ?_) (fun c2553 => (by exfalso; have q9 : ((60 : Nat) : Int) < p0.toInt := ti_nle c2553 rfl (nI_toInt (by omega)); omega))
            have t2554 : p0.toInt ≤ ((60 : Nat) : Int) := ti_le c2553 rfl (nI_toInt (by omega))
            obtain ⟨hct2562, hj2126x⟩ := hj2126
            rcases hj2126x with ⟨ha2555, ha2556, rfl, hpm2557⟩ | ⟨hb2558, hb2559, hfm2560, hno2561⟩
            · have hF2 := hF3 (by omega)
              refine lv_aload_n hx hb dX0_giveFarms_155 rfl (lv_at hl 2 rfl) ?_
              refine lv_dup hx hb dX0_giveFarms_156 rfl ?_
              refine tw_getM (v := .int hl) hx hb hts bF2_X0 hown hK hT hr_o0 shc_3 rfl 15 (by decide) (ht_at2 hts 1 rfl) (fun _ h9 => h9) m2117 dX0_giveFarms_157 ?_
              refine lv_iload_n hx hb dX0_giveFarms_160 rfl (lv_at hl 1 rfl) ?_
              refine lv_iadd hx hb dX0_giveFarms_161 ?_
              refine lv_topi (fun x2563 ex2563 => ?_)
              have t2564 : x2563.toInt = hl.toInt + z2102.toInt := ti_add ex2563 rfl rfl (by omega) (by omega)
              refine tw_put (v := .int x2563) (ty := .int) hx hb hts bF2_X0 tyX0 tyX0_ok nmX0 hown hK hT hG hS hr_o0 shc_3 rfl 15 (by decide) (ht_at2 hts 1 rfl) (fun _ h9 => h9) rfl (by decide +kernel) rfl rfl (gl_at rfl (gi_all _)) dX0_giveFarms_162 (fun H locs hT oq m2565 oj hS => ?_)
              have hF := hF.put hr_o0 skc_3 oq oj (by decide)
              have hF2 := hF2.put hr_o0 skc_3 oq oj (by decide)
              have m2567 := m2107.kept (oq _ (gne hr_hd9 hr_o0 (by decide)))
              refine lv_iload_n hx hb dX0_giveFarms_165 rfl (lv_at hl 1 rfl) ?_
              exact W.iret (v := z2102) hx hb hr (fun t ht hW => ⟨⟨z2102, (x2563, vh), rfl, (by exact ⟨(by have q8 := ti_all z2102; omega), (by have r9 := (show z2102.toInt = z2102.toInt from rfl); exact Or.inr ⟨by omega, fun h8 => by have := h8.1; omega, rfl⟩), (by have := (show x2563.toInt = x2563.toInt from rfl); have := (show z2102.toInt = z2102.toInt from rfl); have := hct2562; exact ⟨by omega, by omega⟩)⟩), by (try dsimp only); rw [ht]; exact ⟨hT, hF, m2565, m2567, (fun _ => hF2)⟩⟩, hS.F ht⟩) hS.2.2 dX0_giveFarms_166
            · refine lv_aload_n hx hb dX0_giveFarms_155 rfl (lv_at hl 2 rfl) ?_
              refine lv_dup hx hb dX0_giveFarms_156 rfl ?_
              refine tw_getM (v := .int hl) hx hb hts bF2_X0 hown hK hT hr_o0 shc_3 rfl 15 (by decide) (ht_at2 hts 1 rfl) (fun _ h9 => h9) m2117 dX0_giveFarms_157 ?_
              refine lv_iload_n hx hb dX0_giveFarms_160 rfl (lv_at hl 1 rfl) ?_
              refine lv_iadd hx hb dX0_giveFarms_161 ?_
              refine lv_topi (fun x2585 ex2585 => ?_)
              have t2586 : x2585.toInt = hl.toInt + z2102.toInt := ti_add ex2585 rfl rfl (by omega) (by omega)
              refine tw_put (v := .int x2585) (ty := .int) hx hb hts bF2_X0 tyX0 tyX0_ok nmX0 hown hK hT hG hS hr_o0 shc_3 rfl 15 (by decide) (ht_at2 hts 1 rfl) (fun _ h9 => h9) rfl (by decide +kernel) rfl rfl (gl_at rfl (gi_all _)) dX0_giveFarms_162 (fun H locs hT oq m2587 oj hS => ?_)
              have hF := hF.put hr_o0 skc_3 oq oj (by decide)
              have m2589 := m2107.kept (oq _ (gne hr_hd9 hr_o0 (by decide)))
              refine lv_iload_n hx hb dX0_giveFarms_165 rfl (lv_at hl 1 rfl) ?_
              exact W.iret (v := z2102) hx hb hr (fun t ht hW => ⟨⟨z2102, (x2585, V2106), rfl, (by exact ⟨(by have q8 := ti_all z2102; omega), (by have r9 := (show z2102.toInt = z2102.toInt from rfl); exact Or.inl ⟨by omega, ⟨by omega, by omega⟩, hfm2560, hno2561⟩), (by have := (show x2585.toInt = x2585.toInt from rfl); have := (show z2102.toInt = z2102.toInt from rfl); have := hct2562; exact ⟨by omega, by omega⟩)⟩), by (try dsimp only); rw [ht]; exact ⟨hT, hF, m2587, m2589, (fun h9 => by exfalso; have h8 := congrArg Int32.toInt h9; have z8 : (0 : Int32).toInt = 0 := (by decide); have := (show x2585.toInt = x2585.toInt from rfl); omega)⟩⟩, hS.F ht⟩) hS.2.2 dX0_giveFarms_166
          | succ n2551 ih2551 =>
            intro i2101 hn2551 hlo2552 z2102 V2104 V2106 ⟨h2103, hj2126, hj2127⟩ H locs hT hF hF3 hS m2105 m2107 m2108 m2109 m2110 m2111 m2112 m2113 m2114 m2115 m2116 m2117 m2118 m2119 m2120 m2121 m2122 m2123 m2124 m2125 ls hl
            have hlt2606 : i2101 < 60 := by omega
            refine lv_iload hx hb dX0_giveFarms_81 (lv_at hl 0 rfl) ?_
            refine lv_iload_n hx hb dX0_giveFarms_83 rfl (lv_at hl 3 rfl) ?_
            refine lv_icmp_ge (tgt := 155) hx hb dX0_giveFarms_84 (by decide) (fun c2607 => ?_) (fun c2607 => ?_)
            · have t2608 : p0.toInt ≤ ((i2101 : Nat) : Int) := ti_le c2607 rfl (nI_toInt (by omega))
              obtain ⟨hct2616, hj2126x⟩ := hj2126
              rcases hj2126x with ⟨ha2609, ha2610, rfl, hpm2611⟩ | ⟨hb2612, hb2613, hfm2614, hno2615⟩
              · have hF2 := hF3 (by omega)
                refine lv_aload_n hx hb dX0_giveFarms_155 rfl (lv_at hl 2 rfl) ?_
                refine lv_dup hx hb dX0_giveFarms_156 rfl ?_
                refine tw_getM (v := .int hl) hx hb hts bF2_X0 hown hK hT hr_o0 shc_3 rfl 15 (by decide) (ht_at2 hts 1 rfl) (fun _ h9 => h9) m2117 dX0_giveFarms_157 ?_
                refine lv_iload_n hx hb dX0_giveFarms_160 rfl (lv_at hl 1 rfl) ?_
                refine lv_iadd hx hb dX0_giveFarms_161 ?_
                refine lv_topi (fun x2617 ex2617 => ?_)
                have t2618 : x2617.toInt = hl.toInt + z2102.toInt := ti_add ex2617 rfl rfl (by omega) (by omega)
                refine tw_put (v := .int x2617) (ty := .int) hx hb hts bF2_X0 tyX0 tyX0_ok nmX0 hown hK hT hG hS hr_o0 shc_3 rfl 15 (by decide) (ht_at2 hts 1 rfl) (fun _ h9 => h9) rfl (by decide +kernel) rfl rfl (gl_at rfl (gi_all _)) dX0_giveFarms_162 (fun H locs hT oq m2619 oj hS => ?_)
                have hF := hF.put hr_o0 skc_3 oq oj (by decide)
                have hF2 := hF2.put hr_o0 skc_3 oq oj (by decide)
                have m2621 := m2107.kept (oq _ (gne hr_hd9 hr_o0 (by decide)))
                refine lv_iload_n hx hb dX0_giveFarms_165 rfl (lv_at hl 1 rfl) ?_
                exact W.iret (v := z2102) hx hb hr (fun t ht hW => ⟨⟨z2102, (x2617, vh), rfl, (by exact ⟨(by have q8 := ti_all z2102; omega), (by have r9 := (show z2102.toInt = z2102.toInt from rfl); exact Or.inr ⟨by omega, fun h8 => by have := h8.1; omega, rfl⟩), (by have := (show x2617.toInt = x2617.toInt from rfl); have := (show z2102.toInt = z2102.toInt from rfl); have := hct2616; exact ⟨by omega, by omega⟩)⟩), by (try dsimp only); rw [ht]; exact ⟨hT, hF, m2619, m2621, (fun _ => hF2)⟩⟩, hS.F ht⟩) hS.2.2 dX0_giveFarms_166
              · refine lv_aload_n hx hb dX0_giveFarms_155 rfl (lv_at hl 2 rfl) ?_
                refine lv_dup hx hb dX0_giveFarms_156 rfl ?_
                refine tw_getM (v := .int hl) hx hb hts bF2_X0 hown hK hT hr_o0 shc_3 rfl 15 (by decide) (ht_at2 hts 1 rfl) (fun _ h9 => h9) m2117 dX0_giveFarms_157 ?_
                refine lv_iload_n hx hb dX0_giveFarms_160 rfl (lv_at hl 1 rfl) ?_
                refine lv_iadd hx hb dX0_giveFarms_161 ?_
                refine lv_topi (fun x2639 ex2639 => ?_)
                have t2640 : x2639.toInt = hl.toInt + z2102.toInt := ti_add ex2639 rfl rfl (by omega) (by omega)
                refine tw_put (v := .int x2639) (ty := .int) hx hb hts bF2_X0 tyX0 tyX0_ok nmX0 hown hK hT hG hS hr_o0 shc_3 rfl 15 (by decide) (ht_at2 hts 1 rfl) (fun _ h9 => h9) rfl (by decide +kernel) rfl rfl (gl_at rfl (gi_all _)) dX0_giveFarms_162 (fun H locs hT oq m2641 oj hS => ?_)
                have hF := hF.put hr_o0 skc_3 oq oj (by decide)
                have m2643 := m2107.kept (oq _ (gne hr_hd9 hr_o0 (by decide)))
                refine lv_iload_n hx hb dX0_giveFarms_165 rfl (lv_at hl 1 rfl) ?_
                exact W.iret (v := z2102) hx hb hr (fun t ht hW => ⟨⟨z2102, (x2639, V2106), rfl, (by exact ⟨(by have q8 := ti_all z2102; omega), (by have r9 := (show z2102.toInt = z2102.toInt from rfl); exact Or.inl ⟨by omega, ⟨by omega, by omega⟩, hfm2614, hno2615⟩), (by have := (show x2639.toInt = x2639.toInt from rfl); have := (show z2102.toInt = z2102.toInt from rfl); have := hct2616; exact ⟨by omega, by omega⟩)⟩), by (try dsimp only); rw [ht]; exact ⟨hT, hF, m2641, m2643, (fun h9 => by exfalso; have h8 := congrArg Int32.toInt h9; have z8 : (0 : Int32).toInt = 0 := (by decide); have := (show x2639.toInt = x2639.toInt from rfl); omega)⟩⟩, hS.F ht⟩) hS.2.2 dX0_giveFarms_166
            · have t2661 : ((i2101 : Nat) : Int) < p0.toInt := ti_nle c2607 rfl (nI_toInt (by omega))
              obtain ⟨hct2669, hj2126x⟩ := hj2126
              rcases hj2126x with ⟨ha2662, ha2663, rfl, hpm2664⟩ | ⟨hb2665, hb2666, hfm2667, hno2668⟩
              · have hF2 := hF3 (by omega)
                refine lv_aload_n hx hb dX0_giveFarms_87 rfl (lv_at hl 2 rfl) ?_
                have hFc := gA_free hG hA hS
                refine va_calli (va_runV (As := []) (rest := []) ⟨hx, hb, hml, hown, hts⟩ (c_firstByMarkZ l dC dI kA adK adV G H nC nS o0 mk9 V2104 hT hr_o0 m2112 hr_mk9 m2105 (by omega) (by omega)) (cwV 0 hts (goodIn_app (goodIn_r _ [6, 7, 8, 9] rfl (by decide +kernel)) (goodIn_ca (goodIn_r _ [3, 1, 4, 5] rfl (by decide +kernel)) (bs2_in _ _))) rfl rfl rfl (by decide +kernel) ⟨(Nat.le_of_ble_eq_true rfl), (Nat.le_of_ble_eq_true rfl)⟩) ⟨fun a U g mk q => by obtain ⟨q0, q1, qK, qE⟩ := q; exact ⟨q0, q1, va_K.moved (u := U) (U := U.calling g mk a) (Vm.Alike.refl U.vm) qK, EVC.blind g mk a qE⟩, gH_rc hK hT hr_o0 shc_3 rfl, fun U hU hW => ⟨rfl, hU, va_K.moved hW.alike hK, hE.call hS hFc hU hW⟩⟩ rfl rfl hl.1 rfl (lv_room (Nat.le_of_ble_eq_true rfl)) dX0_giveFarms_88 ⟨(Nat.le_of_ble_eq_true rfl), (Nat.le_of_ble_eq_true rfl)⟩) hS (fun q _ h => hFc q h) hFc (fun r2670 u t H locs ht hvm hw2671 hB _ _ hS => ?_)
                obtain ⟨hT, hF1⟩ := hB
                rw [ht] at hT hF1
                have m2672 := m2105.kept (hF1.arr hr_mk9 skc_57 (by decide))
                have m2673 := m2107.kept (hF1.arr hr_hd9 skc_54 (by decide))
                have m2674 := m2108.kept (hF1.arr hr_kn skc_42 (by decide))
                have m2675 := m2109.kept (hF1.arr hr_sf skc_47 (by decide))
                have m2676 := m2110.kept (hF1.arr hr_sto skc_48 (by decide))
                have m2677 := m2111.kept (hF1.arr hr_stp9 skc_49 (by decide))
                have m2678 := (hF1.fld hr_o0 skc_3 (k := 6) (by decide) (by decide)).trans m2112
                have m2679 := (hF1.fld hr_o0 skc_3 (k := 3) (by decide) (by decide)).trans m2113
                have m2680 := (hF1.fld hr_o0 skc_3 (k := 0) (by decide) (by decide)).trans m2114
                have m2681 := (hF1.fld hr_o0 skc_3 (k := 16) (by decide) (by decide)).trans m2115
                have m2682 := (hF1.fld hr_o0 skc_3 (k := 5) (by decide) (by decide)).trans m2116
                have m2683 := (hF1.fld hr_o0 skc_3 (k := 15) (by decide) (by decide)).trans m2117
                have m2684 := (hF1.fld hr_o0 skc_3 (k := 7) (by decide) (by decide)).trans m2118
                have m2685 := (hF1.fld hr_lw skc_7 (k := 2) (by decide) (by decide)).trans m2119
                have m2686 := (hF1.fld hr_lw skc_7 (k := 11) (by decide) (by decide)).trans m2120
                have m2687 := (hF1.fld hr_lw skc_7 (k := 7) (by decide) (by decide)).trans m2121
                have m2688 := (hF1.fld hr_lw skc_7 (k := 8) (by decide) (by decide)).trans m2122
                have m2689 := (hF1.fld hr_lw skc_7 (k := 9) (by decide) (by decide)).trans m2123
                have m2690 := (hF1.fld hr_lw skc_7 (k := 10) (by decide) (by decide)).trans m2124
                have m2691 := (hF1.fld hr_o0 skc_3 (k := 14) (by decide) (by decide)).trans m2125
                have hF := hF.more hF1 (by decide)
                have hF2 := hF2.more hF1 (by decide)
                try dsimp only at hw2671
                obtain ⟨h2692, hf2693⟩ := hw2671
                refine lv_istore (lv' := [(5, .int r2670), (4, .int (nI i2101)), (3, .int z2102), (0, .ref o0), (1, .int p0), (2, .ref p1)]) hx hb dX0_giveFarms_91 hl (by decide) rfl (fun ls hl => ?_)
                refine lv_aload_n hx hb dX0_giveFarms_93 rfl (lv_at hl 3 rfl) ?_
                refine lv_aload_n hx hb dX0_giveFarms_94 rfl (lv_at hl 5 rfl) ?_
                refine tw_getN hx hb hts bF2_X3 hown hK hT hr_p1 shc_6 rfl 1 (by decide) (hE.nw 73 rfl) (fun _ h9 => h9) dX0_giveFarms_95 (fun v9 m2694 h9 => ?_)
                obtain ⟨b2695, rfl, hg2696⟩ := h9 _ rfl
                have hFc := gA_free hG hA hS
                refine va_calli (va_runV (As := [.ref b2695]) (rest := []) ⟨hx, hb, hml, hown, hts⟩ (c_bestFreeFarmZ l dC dI kA adK adV G H nC nS o0 b2695 hd9 fm vh hT hg2696 hr_o0 m2679 hr_hd9 m2681 (by have q8 := ti_all fm; omega) hnh m2673 (by omega) (by omega)) (cwV 1 hts (goodIn_app (goodIn_r _ [22, 23, 24, 9] rfl (by decide +kernel)) (goodIn_ca (goodIn_r _ [10, 11, 12, 13, 14, 15, 16, 17, 18, 19, 20, 21, 9] rfl (by decide +kernel)) (bs2_in _ _))) rfl rfl rfl (by decide +kernel) ⟨(Nat.le_of_ble_eq_true rfl), (Nat.le_of_ble_eq_true rfl)⟩) ⟨fun a U g mk q => by obtain ⟨q0, q1, qK, qE⟩ := q; exact ⟨q0, q1, va_K.moved (u := U) (U := U.calling g mk a) (Vm.Alike.refl U.vm) qK, EVC.blind g mk a qE⟩, gH_rc hK hT hr_o0 shc_3 rfl, fun U hU hW => ⟨rfl, hU, va_K.moved hW.alike hK, hE.call hS hFc hU hW⟩⟩ rfl rfl hl.1 rfl (lv_room (Nat.le_of_ble_eq_true rfl)) dX0_giveFarms_98 ⟨(Nat.le_of_ble_eq_true rfl), (Nat.le_of_ble_eq_true rfl)⟩) hS (fun q _ h => hFc q h) hFc (fun r2697 u t H locs ht hvm hw2698 hB _ _ hS => ?_)
                obtain ⟨hT, hF1⟩ := hB
                rw [ht] at hT hF1
                have m2699 := m2672.kept (hF1.arr hr_mk9 skc_57 (by decide))
                have m2700 := m2673.kept (hF1.arr hr_hd9 skc_54 (by decide))
                have m2701 := m2674.kept (hF1.arr hr_kn skc_42 (by decide))
                have m2702 := m2675.kept (hF1.arr hr_sf skc_47 (by decide))
                have m2703 := m2676.kept (hF1.arr hr_sto skc_48 (by decide))
                have m2704 := m2677.kept (hF1.arr hr_stp9 skc_49 (by decide))
                have m2705 := (hF1.fld hr_o0 skc_3 (k := 6) (by decide) (by decide)).trans m2678
                have m2706 := (hF1.fld hr_o0 skc_3 (k := 3) (by decide) (by decide)).trans m2679
                have m2707 := (hF1.fld hr_o0 skc_3 (k := 0) (by decide) (by decide)).trans m2680
                have m2708 := (hF1.fld hr_o0 skc_3 (k := 16) (by decide) (by decide)).trans m2681
                have m2709 := (hF1.fld hr_o0 skc_3 (k := 5) (by decide) (by decide)).trans m2682
                have m2710 := (hF1.fld hr_o0 skc_3 (k := 15) (by decide) (by decide)).trans m2683
                have m2711 := (hF1.fld hr_o0 skc_3 (k := 7) (by decide) (by decide)).trans m2684
                have m2712 := (hF1.fld hr_lw skc_7 (k := 2) (by decide) (by decide)).trans m2685
                have m2713 := (hF1.fld hr_lw skc_7 (k := 11) (by decide) (by decide)).trans m2686
                have m2714 := (hF1.fld hr_lw skc_7 (k := 7) (by decide) (by decide)).trans m2687
                have m2715 := (hF1.fld hr_lw skc_7 (k := 8) (by decide) (by decide)).trans m2688
                have m2716 := (hF1.fld hr_lw skc_7 (k := 9) (by decide) (by decide)).trans m2689
                have m2717 := (hF1.fld hr_lw skc_7 (k := 10) (by decide) (by decide)).trans m2690
                have m2718 := (hF1.fld hr_o0 skc_3 (k := 14) (by decide) (by decide)).trans m2691
                have hF := hF.more hF1 (by decide)
                have hF2 := hF2.more hF1 (by decide)
                try dsimp only at hw2698
                obtain ⟨h2720, hf2721⟩ := hw2698
                refine lv_istore (lv' := [(6, .int r2697), (5, .int r2670), (4, .int (nI i2101)), (3, .int z2102), (0, .ref o0), (1, .int p0), (2, .ref p1)]) hx hb dX0_giveFarms_101 hl (by decide) rfl (fun ls hl => ?_)
                refine lv_iload hx hb dX0_giveFarms_103 (lv_at hl 1 rfl) ?_
                refine lv_iconst (v := (-1)) hx hb dX0_giveFarms_105 (by decide) ?_
                refine lv_icmp_eq (tgt := 155) hx hb dX0_giveFarms_106 (by decide) (fun c2722 => ?_) (fun c2722 => ?_)
                · have t2723 : r2670.toInt = (-1) := ti_eq c2722 rfl (by decide)
                  refine lv_aload_n hx hb dX0_giveFarms_155 rfl (lv_at hl 4 rfl) ?_
                  refine lv_dup hx hb dX0_giveFarms_156 rfl ?_
                  refine tw_getM (v := .int hl) hx hb hts bF2_X0 hown hK hT hr_o0 shc_3 rfl 15 (by decide) (ht_at2 hts 1 rfl) (fun _ h9 => h9) m2710 dX0_giveFarms_157 ?_
                  refine lv_iload_n hx hb dX0_giveFarms_160 rfl (lv_at hl 3 rfl) ?_
                  refine lv_iadd hx hb dX0_giveFarms_161 ?_
                  refine lv_topi (fun x2724 ex2724 => ?_)
                  have t2725 : x2724.toInt = hl.toInt + z2102.toInt := ti_add ex2724 rfl rfl (by omega) (by omega)
                  refine tw_put (v := .int x2724) (ty := .int) hx hb hts bF2_X0 tyX0 tyX0_ok nmX0 hown hK hT hG hS hr_o0 shc_3 rfl 15 (by decide) (ht_at2 hts 1 rfl) (fun _ h9 => h9) rfl (by decide +kernel) rfl rfl (gl_at rfl (gi_all _)) dX0_giveFarms_162 (fun H locs hT oq m2726 oj hS => ?_)
                  have hF := hF.put hr_o0 skc_3 oq oj (by decide)
                  have hF2 := hF2.put hr_o0 skc_3 oq oj (by decide)
                  have m2728 := m2700.kept (oq _ (gne hr_hd9 hr_o0 (by decide)))
                  refine lv_iload_n hx hb dX0_giveFarms_165 rfl (lv_at hl 3 rfl) ?_
                  exact W.iret (v := z2102) hx hb hr (fun t ht hW => ⟨⟨z2102, (x2724, vh), rfl, (by exact ⟨(by have q8 := ti_all z2102; omega), (by have r9 := (show z2102.toInt = z2102.toInt from rfl); exact Or.inr ⟨by omega, fun h8 => by have := h8.2.1; have n9 := h8.2.2; rcases hf2693 with ⟨h7, h6⟩ | ⟨h7, h6, h5⟩; (exact (hpm2664.no (by omega) h6) n9); omega, rfl⟩), (by have := (show x2724.toInt = x2724.toInt from rfl); have := (show z2102.toInt = z2102.toInt from rfl); have := hct2669; exact ⟨by omega, by omega⟩)⟩), by (try dsimp only); rw [ht]; exact ⟨hT, hF, m2726, m2728, (fun _ => hF2)⟩⟩, hS.F ht⟩) hS.2.2 dX0_giveFarms_166
                · have t2747 : r2670.toInt ≠ (-1) := ti_ne c2722 rfl (by decide)
                  refine lv_iload hx hb dX0_giveFarms_109 (lv_at hl 0 rfl) ?_
                  refine lv_iconst (v := (-1)) hx hb dX0_giveFarms_111 (by decide) ?_
                  refine lv_icmp_ne (tgt := 118) hx hb dX0_giveFarms_112 (by decide) (fun c2748 => ?_) (fun c2748 => ?_)
                  · have t2749 : r2697.toInt ≠ (-1) := ti_ne c2748 rfl (by decide)
                    refine lv_aload_n hx hb dX0_giveFarms_118 rfl (lv_at hl 4 rfl) ?_
                    refine tw_getM (v := .ref mk9) hx hb hts bF2_X0 hown hK hT hr_o0 shc_3 rfl 6 (by decide) (ht_at2 hts 3 rfl) (fun _ h9 => h9) m2705 dX0_giveFarms_119 ?_
                    refine lv_iload hx hb dX0_giveFarms_122 (lv_at hl 1 rfl) ?_
                    refine lv_iconst (v := (-1)) hx hb dX0_giveFarms_124 (by decide) ?_
                    refine tw_iast (i := r2670) (x := (-1)) hx hb hK hT hG hS hr_mk9 shc_57 rfl (vin_t (a := r2670.toInt) rfl (by omega) (by omega)) (gi_all _) dX0_giveFarms_125 (fun H locs hT oq m2750 oi hS => ?_)
                    have hF := hF.ast hr_mk9 skc_57 oq (by decide)
                    have hF2 := hF2.ast hr_mk9 skc_57 oq (by decide)
                    have m2751 := m2699.put m2750 oi
                    have m2752 := m2700.kept (oq _ (gne hr_hd9 hr_mk9 (by decide)))
                    have m2753 := m2701.kept (oq _ (gne hr_kn hr_mk9 (by decide)))
                    have m2754 := m2702.kept (oq _ (gne hr_sf hr_mk9 (by decide)))
                    have m2755 := m2703.kept (oq _ (gne hr_sto hr_mk9 (by decide)))
                    have m2756 := m2704.kept (oq _ (gne hr_stp9 hr_mk9 (by decide)))
                    have m2757 := (el_kept (oq _ (gne hr_o0 hr_mk9 (by decide)))).trans m2705
                    have m2758 := (el_kept (oq _ (gne hr_o0 hr_mk9 (by decide)))).trans m2706
                    have m2759 := (el_kept (oq _ (gne hr_o0 hr_mk9 (by decide)))).trans m2707
                    have m2760 := (el_kept (oq _ (gne hr_o0 hr_mk9 (by decide)))).trans m2708
                    have m2761 := (el_kept (oq _ (gne hr_o0 hr_mk9 (by decide)))).trans m2709
                    have m2762 := (el_kept (oq _ (gne hr_o0 hr_mk9 (by decide)))).trans m2710
                    have m2763 := (el_kept (oq _ (gne hr_o0 hr_mk9 (by decide)))).trans m2711
                    have m2764 := (el_kept (oq _ (gne hr_lw hr_mk9 (by decide)))).trans m2712
                    have m2765 := (el_kept (oq _ (gne hr_lw hr_mk9 (by decide)))).trans m2713
                    have m2766 := (el_kept (oq _ (gne hr_lw hr_mk9 (by decide)))).trans m2714
                    have m2767 := (el_kept (oq _ (gne hr_lw hr_mk9 (by decide)))).trans m2715
                    have m2768 := (el_kept (oq _ (gne hr_lw hr_mk9 (by decide)))).trans m2716
                    have m2769 := (el_kept (oq _ (gne hr_lw hr_mk9 (by decide)))).trans m2717
                    have m2770 := (el_kept (oq _ (gne hr_o0 hr_mk9 (by decide)))).trans m2718
                    refine lv_aload_n hx hb dX0_giveFarms_126 rfl (lv_at hl 4 rfl) ?_
                    refine tw_getM (v := .ref sA) hx hb hts bF2_X0 hown hK hT hr_o0 shc_3 rfl 0 (by decide) (ht_at2 hts 4 rfl) (fun _ h9 => h9) m2759 dX0_giveFarms_127 ?_
                    refine lv_iload hx hb dX0_giveFarms_130 (lv_at hl 1 rfl) ?_
                    refine tw_aald (i := r2670) hx hb hK hT hr_sA shc_51 rfl (vin_t (a := r2670.toInt) rfl (by omega) (by omega)) dX0_giveFarms_132 (fun v9 m2772 h9 => ?_)
                    obtain ⟨b2773, rfl, hg2774⟩ := (h9.1 (by have q9 := tn_of (show r2670.toInt = r2670.toInt from rfl) (by omega); omega))
                    refine lv_iload hx hb dX0_giveFarms_133 (lv_at hl 0 rfl) ?_
                    refine tw_putN (v := .int r2697) (ty := .int) hx hb hts bF2_X7 tyX7 tyX7_ok nmX7 hown hK hT hG hS hg2774 shc_10 rfl 7 (by decide) (hE.nw 61 rfl) (fun _ h9 => h9) rfl (by decide +kernel) rfl rfl (gl_at rfl (gi_of (show r2697.toInt = r2697.toInt from rfl) (by omega) (by omega))) dX0_giveFarms_135 (fun H locs hT oq m2775 oj hS => ?_)
                    have hF := hF.put hg2774 skc_10 oq oj (by decide)
                    have m2776 := m2751.kept (oq _ (gne hr_mk9 hg2774 (by decide)))
                    have m2777 := m2752.kept (oq _ (gne hr_hd9 hg2774 (by decide)))
                    have m2778 := m2753.kept (oq _ (gne hr_kn hg2774 (by decide)))
                    have m2779 := m2754.kept (oq _ (gne hr_sf hg2774 (by decide)))
                    have m2780 := m2755.kept (oq _ (gne hr_sto hg2774 (by decide)))
                    have m2781 := m2756.kept (oq _ (gne hr_stp9 hg2774 (by decide)))
                    have m2782 := (el_kept (oq _ (gne hr_o0 hg2774 (by decide)))).trans m2757
                    have m2783 := (el_kept (oq _ (gne hr_o0 hg2774 (by decide)))).trans m2758
                    have m2784 := (el_kept (oq _ (gne hr_o0 hg2774 (by decide)))).trans m2759
                    have m2785 := (el_kept (oq _ (gne hr_o0 hg2774 (by decide)))).trans m2760
                    have m2786 := (el_kept (oq _ (gne hr_o0 hg2774 (by decide)))).trans m2761
                    have m2787 := (el_kept (oq _ (gne hr_o0 hg2774 (by decide)))).trans m2762
                    have m2788 := (el_kept (oq _ (gne hr_o0 hg2774 (by decide)))).trans m2763
                    have m2789 := (el_kept (oq _ (gne hr_lw hg2774 (by decide)))).trans m2764
                    have m2790 := (el_kept (oq _ (gne hr_lw hg2774 (by decide)))).trans m2765
                    have m2791 := (el_kept (oq _ (gne hr_lw hg2774 (by decide)))).trans m2766
                    have m2792 := (el_kept (oq _ (gne hr_lw hg2774 (by decide)))).trans m2767
                    have m2793 := (el_kept (oq _ (gne hr_lw hg2774 (by decide)))).trans m2768
                    have m2794 := (el_kept (oq _ (gne hr_lw hg2774 (by decide)))).trans m2769
                    have m2795 := (el_kept (oq _ (gne hr_o0 hg2774 (by decide)))).trans m2770
                    refine lv_aload_n hx hb dX0_giveFarms_138 rfl (lv_at hl 4 rfl) ?_
                    refine tw_getM (v := .ref hd9) hx hb hts bF2_X0 hown hK hT hr_o0 shc_3 rfl 3 (by decide) (ht_at2 hts 11 rfl) (fun _ h9 => h9) m2783 dX0_giveFarms_139 ?_
                    refine lv_iload hx hb dX0_giveFarms_142 (lv_at hl 0 rfl) ?_
                    refine lv_iconst (v := 1) hx hb dX0_giveFarms_144 (by decide) ?_
                    refine tw_zast (i := r2697) (x := 1) hx hb hK hT hG hS hr_hd9 shc_54 rfl (vin_t (a := r2697.toInt) rfl (by omega) (by omega)) (gi_z (rg_t (a := 1) (by decide) (by first | decide | omega) (by first | decide | omega)) (by decide) (by decide)) dX0_giveFarms_145 (fun H locs hT oq m2799 oi hS => ?_)
                    have hF := hF.ast hr_hd9 skc_54 oq (by decide)
                    have m2800 := m2776.kept (oq _ (gne hr_mk9 hr_hd9 (by decide)))
                    have m2801 := m2777.put (show el H hd9 _ = some (.int 1) from m2799) oi
                    have m2802 := m2778.kept (oq _ (gne hr_kn hr_hd9 (by decide)))
                    have m2803 := m2779.kept (oq _ (gne hr_sf hr_hd9 (by decide)))
                    have m2804 := m2780.kept (oq _ (gne hr_sto hr_hd9 (by decide)))
                    have m2805 := m2781.kept (oq _ (gne hr_stp9 hr_hd9 (by decide)))
                    have m2806 := (el_kept (oq _ (gne hr_o0 hr_hd9 (by decide)))).trans m2782
                    have m2807 := (el_kept (oq _ (gne hr_o0 hr_hd9 (by decide)))).trans m2783
                    have m2808 := (el_kept (oq _ (gne hr_o0 hr_hd9 (by decide)))).trans m2784
                    have m2809 := (el_kept (oq _ (gne hr_o0 hr_hd9 (by decide)))).trans m2785
                    have m2810 := (el_kept (oq _ (gne hr_o0 hr_hd9 (by decide)))).trans m2786
                    have m2811 := (el_kept (oq _ (gne hr_o0 hr_hd9 (by decide)))).trans m2787
                    have m2812 := (el_kept (oq _ (gne hr_o0 hr_hd9 (by decide)))).trans m2788
                    have m2813 := (el_kept (oq _ (gne hr_lw hr_hd9 (by decide)))).trans m2789
                    have m2814 := (el_kept (oq _ (gne hr_lw hr_hd9 (by decide)))).trans m2790
                    have m2815 := (el_kept (oq _ (gne hr_lw hr_hd9 (by decide)))).trans m2791
                    have m2816 := (el_kept (oq _ (gne hr_lw hr_hd9 (by decide)))).trans m2792
                    have m2817 := (el_kept (oq _ (gne hr_lw hr_hd9 (by decide)))).trans m2793
                    have m2818 := (el_kept (oq _ (gne hr_lw hr_hd9 (by decide)))).trans m2794
                    have m2819 := (el_kept (oq _ (gne hr_o0 hr_hd9 (by decide)))).trans m2795
                    obtain ⟨x2824, ex2824⟩ : ∃ y : Int32, y = z2102 + 1 := ⟨_, rfl⟩
                    have t2825 : x2824.toInt = z2102.toInt + 1 := ti_add ex2824 rfl (by decide) (by omega) (by omega)
                    refine lv_iinc (v := x2824) (lv' := [(3, .int x2824), (6, .int r2697), (5, .int r2670), (4, .int (nI i2101)), (0, .ref o0), (1, .int p0), (2, .ref p1)]) hx hb dX0_giveFarms_146 hl (k := 3) rfl (by first | (rw [ex2824]; done) | (rw [ex2824]; rfl)) (by decide) rfl (fun ls hl => ?_)
                    refine lv_iinc (v := nI (i2101 + 1)) (lv' := [(4, .int (nI (i2101 + 1))), (3, .int x2824), (6, .int r2697), (5, .int r2670), (0, .ref o0), (1, .int p0), (2, .ref p1)]) hx hb dX0_giveFarms_149 hl (k := 3) rfl (nI_add i2101 1) (by decide) rfl (fun ls hl => ?_)
                    refine lv_goto (tgt := 81) hx hb dX0_giveFarms_152 (by decide) ?_
                    exact ih2551 (i2101 + 1) (by omega) (by omega) x2824 (cu V2104 r2670.toNatClampNeg (-1 : Int32)) (cu vh r2697.toNatClampNeg (1 : Int32)) ⟨(by have q9 := (show x2824.toInt = x2824.toInt from rfl); (try have q8 := ti_all x2824); omega), ⟨(by have := (show x2824.toInt = x2824.toInt from rfl); rw [zct_1 (by exact hnh _ (by have := tn_of (show r2697.toInt = r2697.toInt from rfl) (by omega); omega)) (by decide) 30 (by have := tn_of (show r2697.toInt = r2697.toInt from rfl) (by omega); omega)]; have := hct2669; omega), Or.inr ⟨by omega, by have := (show x2824.toInt = x2824.toInt from rfl); omega, by omega, hpm2664.yes (by omega) ((hf2693.resolve_left (fun h8 => by have := h8.1; omega)).2.2)⟩⟩, (by have := (show x2824.toInt = x2824.toInt from rfl); omega)⟩ _ _ hT hF (fun h9 => absurd h9 (by omega)) hS m2800 m2801 m2802 m2803 m2804 m2805 m2806 m2807 m2808 m2809 m2810 m2811 m2812 m2813 m2814 m2815 m2816 m2817 m2818 m2819 ls (lv_sub hl [0, 1, 4, 5, 6] rfl)
                  · have t2826 : r2697.toInt = (-1) := ti_eq c2748 rfl (by decide)
                    refine lv_goto (tgt := 155) hx hb dX0_giveFarms_115 (by decide) ?_
                    refine lv_aload_n hx hb dX0_giveFarms_155 rfl (lv_at hl 4 rfl) ?_
                    refine lv_dup hx hb dX0_giveFarms_156 rfl ?_
                    refine tw_getM (v := .int hl) hx hb hts bF2_X0 hown hK hT hr_o0 shc_3 rfl 15 (by decide) (ht_at2 hts 1 rfl) (fun _ h9 => h9) m2710 dX0_giveFarms_157 ?_
                    refine lv_iload_n hx hb dX0_giveFarms_160 rfl (lv_at hl 3 rfl) ?_
                    refine lv_iadd hx hb dX0_giveFarms_161 ?_
                    refine lv_topi (fun x2827 ex2827 => ?_)
                    have t2828 : x2827.toInt = hl.toInt + z2102.toInt := ti_add ex2827 rfl rfl (by omega) (by omega)
                    refine tw_put (v := .int x2827) (ty := .int) hx hb hts bF2_X0 tyX0 tyX0_ok nmX0 hown hK hT hG hS hr_o0 shc_3 rfl 15 (by decide) (ht_at2 hts 1 rfl) (fun _ h9 => h9) rfl (by decide +kernel) rfl rfl (gl_at rfl (gi_all _)) dX0_giveFarms_162 (fun H locs hT oq m2829 oj hS => ?_)
                    have hF := hF.put hr_o0 skc_3 oq oj (by decide)
                    have hF2 := hF2.put hr_o0 skc_3 oq oj (by decide)
                    have m2831 := m2700.kept (oq _ (gne hr_hd9 hr_o0 (by decide)))
                    refine lv_iload_n hx hb dX0_giveFarms_165 rfl (lv_at hl 3 rfl) ?_
                    exact W.iret (v := z2102) hx hb hr (fun t ht hW => ⟨⟨z2102, (x2827, vh), rfl, (by exact ⟨(by have q8 := ti_all z2102; omega), (by have r9 := (show z2102.toInt = z2102.toInt from rfl); exact Or.inr ⟨by omega, fun h8 => by have := h8.2.1; have n9 := h8.2.2; rcases hf2693 with ⟨h7, h6⟩ | ⟨h7, h6, h5⟩; (exact (hpm2664.no (by omega) h6) n9); omega, rfl⟩), (by have := (show x2827.toInt = x2827.toInt from rfl); have := (show z2102.toInt = z2102.toInt from rfl); have := hct2669; exact ⟨by omega, by omega⟩)⟩), by (try dsimp only); rw [ht]; exact ⟨hT, hF, m2829, m2831, (fun _ => hF2)⟩⟩, hS.F ht⟩) hS.2.2 dX0_giveFarms_166
              · refine lv_aload_n hx hb dX0_giveFarms_87 rfl (lv_at hl 2 rfl) ?_
                have hFc := gA_free hG hA hS
                refine va_calli (va_runV (As := []) (rest := []) ⟨hx, hb, hml, hown, hts⟩ (c_firstByMark l dC dI kA adK adV G H nC nS o0 hT hr_o0 (by omega) (by omega)) (cwV 0 hts (goodIn_app (goodIn_r _ [6, 7, 8, 9] rfl (by decide +kernel)) (goodIn_ca (goodIn_r _ [3, 1, 4, 5] rfl (by decide +kernel)) (bs2_in _ _))) rfl rfl rfl (by decide +kernel) ⟨(Nat.le_of_ble_eq_true rfl), (Nat.le_of_ble_eq_true rfl)⟩) ⟨fun a U g mk q => by obtain ⟨q0, q1, qK, qE⟩ := q; exact ⟨q0, q1, va_K.moved (u := U) (U := U.calling g mk a) (Vm.Alike.refl U.vm) qK, EVC.blind g mk a qE⟩, gH_rc hK hT hr_o0 shc_3 rfl, fun U hU hW => ⟨rfl, hU, va_K.moved hW.alike hK, hE.call hS hFc hU hW⟩⟩ rfl rfl hl.1 rfl (lv_room (Nat.le_of_ble_eq_true rfl)) dX0_giveFarms_88 ⟨(Nat.le_of_ble_eq_true rfl), (Nat.le_of_ble_eq_true rfl)⟩) hS (fun q _ h => hFc q h) hFc (fun r2850 u t H locs ht hvm hw2851 hB _ _ hS => ?_)
                obtain ⟨hT, hF1⟩ := hB
                rw [ht] at hT hF1
                have m2852 := m2105.kept (hF1.arr hr_mk9 skc_57 (by decide))
                have m2853 := m2107.kept (hF1.arr hr_hd9 skc_54 (by decide))
                have m2854 := m2108.kept (hF1.arr hr_kn skc_42 (by decide))
                have m2855 := m2109.kept (hF1.arr hr_sf skc_47 (by decide))
                have m2856 := m2110.kept (hF1.arr hr_sto skc_48 (by decide))
                have m2857 := m2111.kept (hF1.arr hr_stp9 skc_49 (by decide))
                have m2858 := (hF1.fld hr_o0 skc_3 (k := 6) (by decide) (by decide)).trans m2112
                have m2859 := (hF1.fld hr_o0 skc_3 (k := 3) (by decide) (by decide)).trans m2113
                have m2860 := (hF1.fld hr_o0 skc_3 (k := 0) (by decide) (by decide)).trans m2114
                have m2861 := (hF1.fld hr_o0 skc_3 (k := 16) (by decide) (by decide)).trans m2115
                have m2862 := (hF1.fld hr_o0 skc_3 (k := 5) (by decide) (by decide)).trans m2116
                have m2863 := (hF1.fld hr_o0 skc_3 (k := 15) (by decide) (by decide)).trans m2117
                have m2864 := (hF1.fld hr_o0 skc_3 (k := 7) (by decide) (by decide)).trans m2118
                have m2865 := (hF1.fld hr_lw skc_7 (k := 2) (by decide) (by decide)).trans m2119
                have m2866 := (hF1.fld hr_lw skc_7 (k := 11) (by decide) (by decide)).trans m2120
                have m2867 := (hF1.fld hr_lw skc_7 (k := 7) (by decide) (by decide)).trans m2121
                have m2868 := (hF1.fld hr_lw skc_7 (k := 8) (by decide) (by decide)).trans m2122
                have m2869 := (hF1.fld hr_lw skc_7 (k := 9) (by decide) (by decide)).trans m2123
                have m2870 := (hF1.fld hr_lw skc_7 (k := 10) (by decide) (by decide)).trans m2124
                have m2871 := (hF1.fld hr_o0 skc_3 (k := 14) (by decide) (by decide)).trans m2125
                have hF := hF.more hF1 (by decide)
                try dsimp only at hw2851
                obtain ⟨h2872, hf2873⟩ := hw2851
                refine lv_istore (lv' := [(5, .int r2850), (4, .int (nI i2101)), (3, .int z2102), (0, .ref o0), (1, .int p0), (2, .ref p1)]) hx hb dX0_giveFarms_91 hl (by decide) rfl (fun ls hl => ?_)
                refine lv_aload_n hx hb dX0_giveFarms_93 rfl (lv_at hl 3 rfl) ?_
                refine lv_aload_n hx hb dX0_giveFarms_94 rfl (lv_at hl 5 rfl) ?_
                refine tw_getN hx hb hts bF2_X3 hown hK hT hr_p1 shc_6 rfl 1 (by decide) (hE.nw 73 rfl) (fun _ h9 => h9) dX0_giveFarms_95 (fun v9 m2874 h9 => ?_)
                obtain ⟨b2875, rfl, hg2876⟩ := h9 _ rfl
                have hFc := gA_free hG hA hS
                refine va_calli (va_runV (As := [.ref b2875]) (rest := []) ⟨hx, hb, hml, hown, hts⟩ (c_bestFreeFarmH l dC dI kA adK adV G H nC nS o0 b2875 hd9 V2106 hT hg2876 hr_o0 m2859 hr_hd9 m2853 (by omega) (by omega)) (cwV 1 hts (goodIn_app (goodIn_r _ [22, 23, 24, 9] rfl (by decide +kernel)) (goodIn_ca (goodIn_r _ [10, 11, 12, 13, 14, 15, 16, 17, 18, 19, 20, 21, 9] rfl (by decide +kernel)) (bs2_in _ _))) rfl rfl rfl (by decide +kernel) ⟨(Nat.le_of_ble_eq_true rfl), (Nat.le_of_ble_eq_true rfl)⟩) ⟨fun a U g mk q => by obtain ⟨q0, q1, qK, qE⟩ := q; exact ⟨q0, q1, va_K.moved (u := U) (U := U.calling g mk a) (Vm.Alike.refl U.vm) qK, EVC.blind g mk a qE⟩, gH_rc hK hT hr_o0 shc_3 rfl, fun U hU hW => ⟨rfl, hU, va_K.moved hW.alike hK, hE.call hS hFc hU hW⟩⟩ rfl rfl hl.1 rfl (lv_room (Nat.le_of_ble_eq_true rfl)) dX0_giveFarms_98 ⟨(Nat.le_of_ble_eq_true rfl), (Nat.le_of_ble_eq_true rfl)⟩) hS (fun q _ h => hFc q h) hFc (fun r2877 u t H locs ht hvm hw2878 hB _ _ hS => ?_)
                obtain ⟨hT, hF1⟩ := hB
                rw [ht] at hT hF1
                have m2879 := m2852.kept (hF1.arr hr_mk9 skc_57 (by decide))
                have m2880 := m2853.kept (hF1.arr hr_hd9 skc_54 (by decide))
                have m2881 := m2854.kept (hF1.arr hr_kn skc_42 (by decide))
                have m2882 := m2855.kept (hF1.arr hr_sf skc_47 (by decide))
                have m2883 := m2856.kept (hF1.arr hr_sto skc_48 (by decide))
                have m2884 := m2857.kept (hF1.arr hr_stp9 skc_49 (by decide))
                have m2885 := (hF1.fld hr_o0 skc_3 (k := 6) (by decide) (by decide)).trans m2858
                have m2886 := (hF1.fld hr_o0 skc_3 (k := 3) (by decide) (by decide)).trans m2859
                have m2887 := (hF1.fld hr_o0 skc_3 (k := 0) (by decide) (by decide)).trans m2860
                have m2888 := (hF1.fld hr_o0 skc_3 (k := 16) (by decide) (by decide)).trans m2861
                have m2889 := (hF1.fld hr_o0 skc_3 (k := 5) (by decide) (by decide)).trans m2862
                have m2890 := (hF1.fld hr_o0 skc_3 (k := 15) (by decide) (by decide)).trans m2863
                have m2891 := (hF1.fld hr_o0 skc_3 (k := 7) (by decide) (by decide)).trans m2864
                have m2892 := (hF1.fld hr_lw skc_7 (k := 2) (by decide) (by decide)).trans m2865
                have m2893 := (hF1.fld hr_lw skc_7 (k := 11) (by decide) (by decide)).trans m2866
                have m2894 := (hF1.fld hr_lw skc_7 (k := 7) (by decide) (by decide)).trans m2867
                have m2895 := (hF1.fld hr_lw skc_7 (k := 8) (by decide) (by decide)).trans m2868
                have m2896 := (hF1.fld hr_lw skc_7 (k := 9) (by decide) (by decide)).trans m2869
                have m2897 := (hF1.fld hr_lw skc_7 (k := 10) (by decide) (by decide)).trans m2870
                have m2898 := (hF1.fld hr_o0 skc_3 (k := 14) (by decide) (by decide)).trans m2871
                have hF := hF.more hF1 (by decide)
                try dsimp only at hw2878
                obtain ⟨h2900, hf2901⟩ := hw2878
                refine lv_istore (lv' := [(6, .int r2877), (5, .int r2850), (4, .int (nI i2101)), (3, .int z2102), (0, .ref o0), (1, .int p0), (2, .ref p1)]) hx hb dX0_giveFarms_101 hl (by decide) rfl (fun ls hl => ?_)
                refine lv_iload hx hb dX0_giveFarms_103 (lv_at hl 1 rfl) ?_
                refine lv_iconst (v := (-1)) hx hb dX0_giveFarms_105 (by decide) ?_
                refine lv_icmp_eq (tgt := 155) hx hb dX0_giveFarms_106 (by decide) (fun c2902 => ?_) (fun c2902 => ?_)
                · have t2903 : r2850.toInt = (-1) := ti_eq c2902 rfl (by decide)
                  refine lv_aload_n hx hb dX0_giveFarms_155 rfl (lv_at hl 4 rfl) ?_
                  refine lv_dup hx hb dX0_giveFarms_156 rfl ?_
                  refine tw_getM (v := .int hl) hx hb hts bF2_X0 hown hK hT hr_o0 shc_3 rfl 15 (by decide) (ht_at2 hts 1 rfl) (fun _ h9 => h9) m2890 dX0_giveFarms_157 ?_
                  refine lv_iload_n hx hb dX0_giveFarms_160 rfl (lv_at hl 3 rfl) ?_
                  refine lv_iadd hx hb dX0_giveFarms_161 ?_
                  refine lv_topi (fun x2904 ex2904 => ?_)
                  have t2905 : x2904.toInt = hl.toInt + z2102.toInt := ti_add ex2904 rfl rfl (by omega) (by omega)
                  refine tw_put (v := .int x2904) (ty := .int) hx hb hts bF2_X0 tyX0 tyX0_ok nmX0 hown hK hT hG hS hr_o0 shc_3 rfl 15 (by decide) (ht_at2 hts 1 rfl) (fun _ h9 => h9) rfl (by decide +kernel) rfl rfl (gl_at rfl (gi_all _)) dX0_giveFarms_162 (fun H locs hT oq m2906 oj hS => ?_)
                  have hF := hF.put hr_o0 skc_3 oq oj (by decide)
                  have m2908 := m2880.kept (oq _ (gne hr_hd9 hr_o0 (by decide)))
                  refine lv_iload_n hx hb dX0_giveFarms_165 rfl (lv_at hl 3 rfl) ?_
                  exact W.iret (v := z2102) hx hb hr (fun t ht hW => ⟨⟨z2102, (x2904, V2106), rfl, (by exact ⟨(by have q8 := ti_all z2102; omega), (by have r9 := (show z2102.toInt = z2102.toInt from rfl); exact Or.inl ⟨by omega, ⟨by omega, by omega⟩, hfm2667, hno2668⟩), (by have := (show x2904.toInt = x2904.toInt from rfl); have := (show z2102.toInt = z2102.toInt from rfl); have := hct2669; exact ⟨by omega, by omega⟩)⟩), by (try dsimp only); rw [ht]; exact ⟨hT, hF, m2906, m2908, (fun h9 => by exfalso; have h8 := congrArg Int32.toInt h9; have z8 : (0 : Int32).toInt = 0 := (by decide); have := (show x2904.toInt = x2904.toInt from rfl); omega)⟩⟩, hS.F ht⟩) hS.2.2 dX0_giveFarms_166
                · have t2927 : r2850.toInt ≠ (-1) := ti_ne c2902 rfl (by decide)
                  refine lv_iload hx hb dX0_giveFarms_109 (lv_at hl 0 rfl) ?_
                  refine lv_iconst (v := (-1)) hx hb dX0_giveFarms_111 (by decide) ?_
                  refine lv_icmp_ne (tgt := 118) hx hb dX0_giveFarms_112 (by decide) (fun c2928 => ?_) (fun c2928 => ?_)
                  · have t2929 : r2877.toInt ≠ (-1) := ti_ne c2928 rfl (by decide)
                    refine lv_aload_n hx hb dX0_giveFarms_118 rfl (lv_at hl 4 rfl) ?_
                    refine tw_getM (v := .ref mk9) hx hb hts bF2_X0 hown hK hT hr_o0 shc_3 rfl 6 (by decide) (ht_at2 hts 3 rfl) (fun _ h9 => h9) m2885 dX0_giveFarms_119 ?_
                    refine lv_iload hx hb dX0_giveFarms_122 (lv_at hl 1 rfl) ?_
                    refine lv_iconst (v := (-1)) hx hb dX0_giveFarms_124 (by decide) ?_
                    refine tw_iast (i := r2850) (x := (-1)) hx hb hK hT hG hS hr_mk9 shc_57 rfl (vin_t (a := r2850.toInt) rfl (by omega) (by omega)) (gi_all _) dX0_giveFarms_125 (fun H locs hT oq m2930 oi hS => ?_)
                    have hF := hF.ast hr_mk9 skc_57 oq (by decide)
                    have m2931 := m2879.put m2930 oi
                    have m2932 := m2880.kept (oq _ (gne hr_hd9 hr_mk9 (by decide)))
                    have m2933 := m2881.kept (oq _ (gne hr_kn hr_mk9 (by decide)))
                    have m2934 := m2882.kept (oq _ (gne hr_sf hr_mk9 (by decide)))
                    have m2935 := m2883.kept (oq _ (gne hr_sto hr_mk9 (by decide)))
                    have m2936 := m2884.kept (oq _ (gne hr_stp9 hr_mk9 (by decide)))
                    have m2937 := (el_kept (oq _ (gne hr_o0 hr_mk9 (by decide)))).trans m2885
                    have m2938 := (el_kept (oq _ (gne hr_o0 hr_mk9 (by decide)))).trans m2886
                    have m2939 := (el_kept (oq _ (gne hr_o0 hr_mk9 (by decide)))).trans m2887
                    have m2940 := (el_kept (oq _ (gne hr_o0 hr_mk9 (by decide)))).trans m2888
                    have m2941 := (el_kept (oq _ (gne hr_o0 hr_mk9 (by decide)))).trans m2889
                    have m2942 := (el_kept (oq _ (gne hr_o0 hr_mk9 (by decide)))).trans m2890
                    have m2943 := (el_kept (oq _ (gne hr_o0 hr_mk9 (by decide)))).trans m2891
                    have m2944 := (el_kept (oq _ (gne hr_lw hr_mk9 (by decide)))).trans m2892
                    have m2945 := (el_kept (oq _ (gne hr_lw hr_mk9 (by decide)))).trans m2893
                    have m2946 := (el_kept (oq _ (gne hr_lw hr_mk9 (by decide)))).trans m2894
                    have m2947 := (el_kept (oq _ (gne hr_lw hr_mk9 (by decide)))).trans m2895
                    have m2948 := (el_kept (oq _ (gne hr_lw hr_mk9 (by decide)))).trans m2896
                    have m2949 := (el_kept (oq _ (gne hr_lw hr_mk9 (by decide)))).trans m2897
                    have m2950 := (el_kept (oq _ (gne hr_o0 hr_mk9 (by decide)))).trans m2898
                    refine lv_aload_n hx hb dX0_giveFarms_126 rfl (lv_at hl 4 rfl) ?_
                    refine tw_getM (v := .ref sA) hx hb hts bF2_X0 hown hK hT hr_o0 shc_3 rfl 0 (by decide) (ht_at2 hts 4 rfl) (fun _ h9 => h9) m2939 dX0_giveFarms_127 ?_
                    refine lv_iload hx hb dX0_giveFarms_130 (lv_at hl 1 rfl) ?_
                    refine tw_aald (i := r2850) hx hb hK hT hr_sA shc_51 rfl (vin_t (a := r2850.toInt) rfl (by omega) (by omega)) dX0_giveFarms_132 (fun v9 m2952 h9 => ?_)
                    obtain ⟨b2953, rfl, hg2954⟩ := (h9.1 (by have q9 := tn_of (show r2850.toInt = r2850.toInt from rfl) (by omega); omega))
                    refine lv_iload hx hb dX0_giveFarms_133 (lv_at hl 0 rfl) ?_
                    refine tw_putN (v := .int r2877) (ty := .int) hx hb hts bF2_X7 tyX7 tyX7_ok nmX7 hown hK hT hG hS hg2954 shc_10 rfl 7 (by decide) (hE.nw 61 rfl) (fun _ h9 => h9) rfl (by decide +kernel) rfl rfl (gl_at rfl (gi_of (show r2877.toInt = r2877.toInt from rfl) (by omega) (by omega))) dX0_giveFarms_135 (fun H locs hT oq m2955 oj hS => ?_)
                    have hF := hF.put hg2954 skc_10 oq oj (by decide)
                    have m2956 := m2931.kept (oq _ (gne hr_mk9 hg2954 (by decide)))
                    have m2957 := m2932.kept (oq _ (gne hr_hd9 hg2954 (by decide)))
                    have m2958 := m2933.kept (oq _ (gne hr_kn hg2954 (by decide)))
                    have m2959 := m2934.kept (oq _ (gne hr_sf hg2954 (by decide)))
                    have m2960 := m2935.kept (oq _ (gne hr_sto hg2954 (by decide)))
                    have m2961 := m2936.kept (oq _ (gne hr_stp9 hg2954 (by decide)))
                    have m2962 := (el_kept (oq _ (gne hr_o0 hg2954 (by decide)))).trans m2937
                    have m2963 := (el_kept (oq _ (gne hr_o0 hg2954 (by decide)))).trans m2938
                    have m2964 := (el_kept (oq _ (gne hr_o0 hg2954 (by decide)))).trans m2939
                    have m2965 := (el_kept (oq _ (gne hr_o0 hg2954 (by decide)))).trans m2940
                    have m2966 := (el_kept (oq _ (gne hr_o0 hg2954 (by decide)))).trans m2941
                    have m2967 := (el_kept (oq _ (gne hr_o0 hg2954 (by decide)))).trans m2942
                    have m2968 := (el_kept (oq _ (gne hr_o0 hg2954 (by decide)))).trans m2943
                    have m2969 := (el_kept (oq _ (gne hr_lw hg2954 (by decide)))).trans m2944
                    have m2970 := (el_kept (oq _ (gne hr_lw hg2954 (by decide)))).trans m2945
                    have m2971 := (el_kept (oq _ (gne hr_lw hg2954 (by decide)))).trans m2946
                    have m2972 := (el_kept (oq _ (gne hr_lw hg2954 (by decide)))).trans m2947
                    have m2973 := (el_kept (oq _ (gne hr_lw hg2954 (by decide)))).trans m2948
                    have m2974 := (el_kept (oq _ (gne hr_lw hg2954 (by decide)))).trans m2949
                    have m2975 := (el_kept (oq _ (gne hr_o0 hg2954 (by decide)))).trans m2950
                    refine lv_aload_n hx hb dX0_giveFarms_138 rfl (lv_at hl 4 rfl) ?_
                    refine tw_getM (v := .ref hd9) hx hb hts bF2_X0 hown hK hT hr_o0 shc_3 rfl 3 (by decide) (ht_at2 hts 11 rfl) (fun _ h9 => h9) m2963 dX0_giveFarms_139 ?_
                    refine lv_iload hx hb dX0_giveFarms_142 (lv_at hl 0 rfl) ?_
                    refine lv_iconst (v := 1) hx hb dX0_giveFarms_144 (by decide) ?_
                    refine tw_zast (i := r2877) (x := 1) hx hb hK hT hG hS hr_hd9 shc_54 rfl (vin_t (a := r2877.toInt) rfl (by omega) (by omega)) (gi_z (rg_t (a := 1) (by decide) (by first | decide | omega) (by first | decide | omega)) (by decide) (by decide)) dX0_giveFarms_145 (fun H locs hT oq m2979 oi hS => ?_)
                    have hF := hF.ast hr_hd9 skc_54 oq (by decide)
                    have m2980 := m2956.kept (oq _ (gne hr_mk9 hr_hd9 (by decide)))
                    have m2981 := m2957.put (show el H hd9 _ = some (.int 1) from m2979) oi
                    have m2982 := m2958.kept (oq _ (gne hr_kn hr_hd9 (by decide)))
                    have m2983 := m2959.kept (oq _ (gne hr_sf hr_hd9 (by decide)))
                    have m2984 := m2960.kept (oq _ (gne hr_sto hr_hd9 (by decide)))
                    have m2985 := m2961.kept (oq _ (gne hr_stp9 hr_hd9 (by decide)))
                    have m2986 := (el_kept (oq _ (gne hr_o0 hr_hd9 (by decide)))).trans m2962
                    have m2987 := (el_kept (oq _ (gne hr_o0 hr_hd9 (by decide)))).trans m2963
                    have m2988 := (el_kept (oq _ (gne hr_o0 hr_hd9 (by decide)))).trans m2964
                    have m2989 := (el_kept (oq _ (gne hr_o0 hr_hd9 (by decide)))).trans m2965
                    have m2990 := (el_kept (oq _ (gne hr_o0 hr_hd9 (by decide)))).trans m2966
                    have m2991 := (el_kept (oq _ (gne hr_o0 hr_hd9 (by decide)))).trans m2967
                    have m2992 := (el_kept (oq _ (gne hr_o0 hr_hd9 (by decide)))).trans m2968
                    have m2993 := (el_kept (oq _ (gne hr_lw hr_hd9 (by decide)))).trans m2969
                    have m2994 := (el_kept (oq _ (gne hr_lw hr_hd9 (by decide)))).trans m2970
                    have m2995 := (el_kept (oq _ (gne hr_lw hr_hd9 (by decide)))).trans m2971
                    have m2996 := (el_kept (oq _ (gne hr_lw hr_hd9 (by decide)))).trans m2972
                    have m2997 := (el_kept (oq _ (gne hr_lw hr_hd9 (by decide)))).trans m2973
                    have m2998 := (el_kept (oq _ (gne hr_lw hr_hd9 (by decide)))).trans m2974
                    have m2999 := (el_kept (oq _ (gne hr_o0 hr_hd9 (by decide)))).trans m2975
                    obtain ⟨x3004, ex3004⟩ : ∃ y : Int32, y = z2102 + 1 := ⟨_, rfl⟩
                    have t3005 : x3004.toInt = z2102.toInt + 1 := ti_add ex3004 rfl (by decide) (by omega) (by omega)
                    refine lv_iinc (v := x3004) (lv' := [(3, .int x3004), (6, .int r2877), (5, .int r2850), (4, .int (nI i2101)), (0, .ref o0), (1, .int p0), (2, .ref p1)]) hx hb dX0_giveFarms_146 hl (k := 3) rfl (by first | (rw [ex3004]; done) | (rw [ex3004]; rfl)) (by decide) rfl (fun ls hl => ?_)
                    refine lv_iinc (v := nI (i2101 + 1)) (lv' := [(4, .int (nI (i2101 + 1))), (3, .int x3004), (6, .int r2877), (5, .int r2850), (0, .ref o0), (1, .int p0), (2, .ref p1)]) hx hb dX0_giveFarms_149 hl (k := 3) rfl (nI_add i2101 1) (by decide) rfl (fun ls hl => ?_)
                    refine lv_goto (tgt := 81) hx hb dX0_giveFarms_152 (by decide) ?_
                    exact ih2551 (i2101 + 1) (by omega) (by omega) x3004 (cu V2104 r2850.toNatClampNeg (-1 : Int32)) (cu V2106 r2877.toNatClampNeg (1 : Int32)) ⟨(by have q9 := (show x3004.toInt = x3004.toInt from rfl); (try have q8 := ti_all x3004); omega), ⟨(by have := (show x3004.toInt = x3004.toInt from rfl); rw [zct_1 (by exact (hf2901.resolve_left (fun h8 => by omega)).2.2) (by decide) 30 (by have := tn_of (show r2877.toInt = r2877.toInt from rfl) (by omega); omega)]; have := hct2669; omega), Or.inr ⟨by omega, by have := (show x3004.toInt = x3004.toInt from rfl); omega, hfm2667, hno2668⟩⟩, (by have := (show x3004.toInt = x3004.toInt from rfl); omega)⟩ _ _ hT hF (fun h9 => absurd h9 (by omega)) hS m2980 m2981 m2982 m2983 m2984 m2985 m2986 m2987 m2988 m2989 m2990 m2991 m2992 m2993 m2994 m2995 m2996 m2997 m2998 m2999 ls (lv_sub hl [0, 1, 4, 5, 6] rfl)
                  · have t3006 : r2877.toInt = (-1) := ti_eq c2928 rfl (by decide)
                    refine lv_goto (tgt := 155) hx hb dX0_giveFarms_115 (by decide) ?_
                    refine lv_aload_n hx hb dX0_giveFarms_155 rfl (lv_at hl 4 rfl) ?_
                    refine lv_dup hx hb dX0_giveFarms_156 rfl ?_
                    refine tw_getM (v := .int hl) hx hb hts bF2_X0 hown hK hT hr_o0 shc_3 rfl 15 (by decide) (ht_at2 hts 1 rfl) (fun _ h9 => h9) m2890 dX0_giveFarms_157 ?_
                    refine lv_iload_n hx hb dX0_giveFarms_160 rfl (lv_at hl 3 rfl) ?_
                    refine lv_iadd hx hb dX0_giveFarms_161 ?_
                    refine lv_topi (fun x3007 ex3007 => ?_)
                    have t3008 : x3007.toInt = hl.toInt + z2102.toInt := ti_add ex3007 rfl rfl (by omega) (by omega)
                    refine tw_put (v := .int x3007) (ty := .int) hx hb hts bF2_X0 tyX0 tyX0_ok nmX0 hown hK hT hG hS hr_o0 shc_3 rfl 15 (by decide) (ht_at2 hts 1 rfl) (fun _ h9 => h9) rfl (by decide +kernel) rfl rfl (gl_at rfl (gi_all _)) dX0_giveFarms_162 (fun H locs hT oq m3009 oj hS => ?_)
                    have hF := hF.put hr_o0 skc_3 oq oj (by decide)
                    have m3011 := m2880.kept (oq _ (gne hr_hd9 hr_o0 (by decide)))
                    refine lv_iload_n hx hb dX0_giveFarms_165 rfl (lv_at hl 3 rfl) ?_
                    exact W.iret (v := z2102) hx hb hr (fun t ht hW => ⟨⟨z2102, (x3007, V2106), rfl, (by exact ⟨(by have q8 := ti_all z2102; omega), (by have r9 := (show z2102.toInt = z2102.toInt from rfl); exact Or.inl ⟨by omega, ⟨by omega, by omega⟩, hfm2667, hno2668⟩), (by have := (show x3007.toInt = x3007.toInt from rfl); have := (show z2102.toInt = z2102.toInt from rfl); have := hct2669; exact ⟨by omega, by omega⟩)⟩), by (try dsimp only); rw [ht]; exact ⟨hT, hF, m3009, m3011, (fun h9 => by exfalso; have h8 := congrArg Int32.toInt h9; have z8 : (0 : Int32).toInt = 0 := (by decide); have := (show x3007.toInt = x3007.toInt from rfl); omega)⟩⟩, hS.F ht⟩) hS.2.2 dX0_giveFarms_166
        exact key2551 (60 - 0) 0 (by omega) (Nat.le_refl _) 0 V2 vh ⟨(by have q9 := (show (0 : Int32).toInt = 0 from (by decide)); (try have q8 := ti_all (0 : Int32)); omega), ⟨hct, Or.inl ⟨by omega, by decide, rfl, by rw [show nS.toNat = i1 from by omega]; exact hj22⟩⟩, (by have := (show (0 : Int32).toInt = 0 from (by decide)); omega)⟩ _ _ hT hF (fun _ => hF2) hS m3 m4 m5 m6 m7 m8 m9 m10 m11 m12 m13 m14 m15 m16 m17 m18 m19 m20 m21 m2097 ls (lv_sub hl [0, 1, 2, 3, 4] rfl)
      · have t3030 : ((i1 : Nat) : Int) < x2098.toInt := ti_nle c2099 rfl (nI_toInt (by omega))
        refine lv_aload_n hx hb dX0_giveFarms_10 rfl (lv_at hl 1 rfl) ?_
        refine lv_aload_n hx hb dX0_giveFarms_11 rfl (lv_at hl 1 rfl) ?_
        refine tw_getM (v := .ref sA) hx hb hts bF2_X0 hown hK hT hr_o0 shc_3 rfl 0 (by decide) (ht_at2 hts 4 rfl) (fun _ h9 => h9) m11 dX0_giveFarms_12 ?_
        refine lv_iload_n hx hb dX0_giveFarms_15 rfl (lv_at hl 0 rfl) ?_
        refine tw_aald (i := (nI i1)) hx hb hK hT hr_sA shc_51 rfl (vp_in_nI (by omega) (by decide)) dX0_giveFarms_16 (fun v9 m3031 h9 => ?_)
        obtain ⟨b3032, rfl, hg3033⟩ := (h9.1 (by have q9 := tn_of (show (nI i1).toInt = ((i1 : Nat) : Int) from (nI_toInt (by omega))) (by omega); omega))
        have fs3034 := hFS (nI i1).toNatClampNeg (by have := tn_of (show (nI i1).toInt = ((i1 : Nat) : Int) from (nI_toInt (by omega))) (by omega); omega) b3032 ((el_kept (hF2.arr hr_sA skc_51 (by decide))).symm.trans m3031)
        rw [tn_nI (by omega)] at fs3034
        have m3035 := (hF2.fld hg3033 skc_10 (k := 7) (by decide) (by decide)).trans fs3034.1
        have m3036 := (hF2.fld hg3033 skc_10 (k := 8) (by decide) (by decide)).trans fs3034.2.1
        have m3037 := (hF2.fld hg3033 skc_10 (k := 9) (by decide) (by decide)).trans fs3034.2.2.1
        have m3038 := (hF2.fld hg3033 skc_10 (k := 0) (by decide) (by decide)).trans fs3034.2.2.2.1
        obtain ⟨x3039, ex3039⟩ : ∃ y : Int32, y = vA i1 := ⟨_, rfl⟩
        rw [← ex3039] at m3038
        have m3040 := (hF2.fld hg3033 skc_10 (k := 1) (by decide) (by decide)).trans fs3034.2.2.2.2.1
        obtain ⟨x3041, ex3041⟩ : ∃ y : Int32, y = vD i1 := ⟨_, rfl⟩
        rw [← ex3041] at m3040
        have m3042 := (hF2.fld hg3033 skc_10 (k := 6) (by decide) (by decide)).trans fs3034.2.2.2.2.2.1
        obtain ⟨x3043, ex3043⟩ : ∃ y : Int32, y = vC i1 := ⟨_, rfl⟩
        rw [← ex3043] at m3042
        have m3044 := (hF2.fld hg3033 skc_10 (k := 2) (by decide) (by decide)).trans fs3034.2.2.2.2.2.2.1
        obtain ⟨x3045, ex3045⟩ : ∃ y : Int32, y = vU i1 := ⟨_, rfl⟩
        rw [← ex3045] at m3044
        have m3046 := (hF2.fld hg3033 skc_10 (k := 3) (by decide) (by decide)).trans fs3034.2.2.2.2.2.2.2.1
        obtain ⟨x3047, ex3047⟩ : ∃ y : Int32, y = vI i1 := ⟨_, rfl⟩
        rw [← ex3047] at m3046
        have h3048 : 0 ≤ x3047.toInt ∧ x3047.toInt ≤ 1 := by obtain ⟨v9, e9, h9⟩ := gH_fld hT hg3033 shc_10 (k := 3) (by decide); rw [m3046] at e9; cases e9; obtain ⟨y9, z9, a9, b9⟩ := h9 _ rfl; cases z9; exact ⟨a9, b9⟩
        have m3049 := (hF2.fld hg3033 skc_10 (k := 4) (by decide) (by decide)).trans fs3034.2.2.2.2.2.2.2.2
        obtain ⟨x3050, ex3050⟩ : ∃ y : Int32, y = vW i1 := ⟨_, rfl⟩
        rw [← ex3050] at m3049
        have h3051 : 0 ≤ x3050.toInt ∧ x3050.toInt ≤ 1 := by obtain ⟨v9, e9, h9⟩ := gH_fld hT hg3033 shc_10 (k := 4) (by decide); rw [m3049] at e9; cases e9; obtain ⟨y9, z9, a9, b9⟩ := h9 _ rfl; cases z9; exact ⟨a9, b9⟩
        refine lv_aload_n hx hb dX0_giveFarms_17 rfl (lv_at hl 3 rfl) ?_
        obtain ⟨V3052, m3053⟩ := ctl_of hT hr_fa9 shc_56
        have hFc := gA_free hG hA hS
        refine va_callv (va_runV (As := [.ref b3032, .ref p1]) (rest := []) ⟨hx, hb, hml, hown, hts⟩ (c_gatherFactsZ l dC dI kA adK adV G H nC nS o0 b3032 p1 fa9 (-1) 0 x3039 x3041 x3043 x3045 x3047 x3050 0 V3052 hT hg3033 hr_p1 hr_o0 m13 hr_fa9 m3035 m3036 m3038 m3040 m3042 m3044 m3046 m3049 m3037 (rg_t (a := (-1)) (by decide) (by first | decide | omega) (by first | decide | omega)) (by have q8 := ti_all x3047; omega) (by have q8 := ti_all x3050; omega) m3053 (by omega) (by omega)) (cwV 2 hts (goodIn_app (goodIn_r _ [35, 36, 37, 9] rfl (by decide +kernel)) (goodIn_ca (goodIn_r _ [25, 26, 27, 28, 29, 30, 9, 31, 32, 33, 34] rfl (by decide +kernel)) (bs2_in _ _))) rfl rfl rfl (by decide +kernel) ⟨(Nat.le_of_ble_eq_true rfl), (Nat.le_of_ble_eq_true rfl)⟩) ⟨fun a U g mk q => by obtain ⟨q0, q1, qK, qE⟩ := q; exact ⟨q0, q1, va_K.moved (u := U) (U := U.calling g mk a) (Vm.Alike.refl U.vm) qK, EVC.blind g mk a qE⟩, gH_rc hK hT hr_o0 shc_3 rfl, fun U hU hW => ⟨rfl, hU, va_K.moved hW.alike hK, hE.call hS hFc hU hW⟩⟩ rfl rfl hl.1 rfl (lv_room (Nat.le_of_ble_eq_true rfl)) dX0_giveFarms_18 ⟨(Nat.le_of_ble_eq_true rfl), (Nat.le_of_ble_eq_true rfl)⟩) hS (fun q _ h => hFc q h) hFc (fun u t H locs ht hvm hw3055 hB _ _ hS => ?_)
        obtain ⟨u3056, rfl⟩ : ∃ z, z = u := ⟨_, rfl⟩
        obtain ⟨hT, hF1, m3057⟩ := hB
        rw [ht] at hT hF1 m3057
        have m3058 := m3.kept (hF1.arr hr_mk9 skc_57 (by decide))
        have m3059 := m4.kept (hF1.arr hr_hd9 skc_54 (by decide))
        have m3060 := m5.kept (hF1.arr hr_kn skc_42 (by decide))
        have m3061 := m6.kept (hF1.arr hr_sf skc_47 (by decide))
        have m3062 := m7.kept (hF1.arr hr_sto skc_48 (by decide))
        have m3063 := m8.kept (hF1.arr hr_stp9 skc_49 (by decide))
        have m3064 := (hF1.fld hr_o0 skc_3 (k := 6) (by decide) (by decide)).trans m9
        have m3065 := (hF1.fld hr_o0 skc_3 (k := 3) (by decide) (by decide)).trans m10
        have m3066 := (hF1.fld hr_o0 skc_3 (k := 0) (by decide) (by decide)).trans m11
        have m3067 := (hF1.fld hr_o0 skc_3 (k := 16) (by decide) (by decide)).trans m12
        have m3068 := (hF1.fld hr_o0 skc_3 (k := 5) (by decide) (by decide)).trans m13
        have m3069 := (hF1.fld hr_o0 skc_3 (k := 15) (by decide) (by decide)).trans m14
        have m3070 := (hF1.fld hr_o0 skc_3 (k := 7) (by decide) (by decide)).trans m15
        have m3071 := (hF1.fld hr_lw skc_7 (k := 2) (by decide) (by decide)).trans m16
        have m3072 := (hF1.fld hr_lw skc_7 (k := 11) (by decide) (by decide)).trans m17
        have m3073 := (hF1.fld hr_lw skc_7 (k := 7) (by decide) (by decide)).trans m18
        have m3074 := (hF1.fld hr_lw skc_7 (k := 8) (by decide) (by decide)).trans m19
        have m3075 := (hF1.fld hr_lw skc_7 (k := 9) (by decide) (by decide)).trans m20
        have m3076 := (hF1.fld hr_lw skc_7 (k := 10) (by decide) (by decide)).trans m21
        have m3078 := (el_kept (hF1.arr hr_sA skc_51 (by decide))).trans m3031
        have m3079 := (hF1.fld hg3033 skc_10 (k := 7) (by decide) (by decide)).trans m3035
        have hF := hF.more hF1 (by decide)
        have hF2 := hF2.more hF1 (by decide)
        try dsimp only at hw3055
        have hf3089 := hw3055
        refine lv_aload_n hx hb dX0_giveFarms_21 rfl (lv_at hl 1 rfl) ?_
        refine tw_getM (v := .ref sA) hx hb hts bF2_X0 hown hK hT hr_o0 shc_3 rfl 0 (by decide) (ht_at2 hts 4 rfl) (fun _ h9 => h9) m3066 dX0_giveFarms_22 ?_
        refine lv_iload_n hx hb dX0_giveFarms_25 rfl (lv_at hl 0 rfl) ?_
        refine tw_aald (i := (nI i1)) hx hb hK hT hr_sA shc_51 rfl (vp_in_nI (by omega) (by decide)) dX0_giveFarms_26 (fun v9 m3090 h9 => ?_)
        obtain ⟨b3091, rfl, hg3092⟩ := (h9.1 (by have q9 := tn_of (show (nI i1).toInt = ((i1 : Nat) : Int) from (nI_toInt (by omega))) (by omega); omega))
        obtain rfl : b3032 = b3091 := (el_sameR m3090 m3078 (show (nI i1).toInt = (nI i1).toInt from by have q9 := (show (nI i1).toInt = ((i1 : Nat) : Int) from (nI_toInt (by omega))); have q8 := (show (nI i1).toInt = ((i1 : Nat) : Int) from (nI_toInt (by omega))); omega)).symm
        refine tw_getNM (v := .int (-1)) hx hb hts bF2_X7 hown hK hT hg3033 shc_10 rfl 7 (by decide) (hE.nw 61 rfl) (fun _ h9 => h9) m3079 dX0_giveFarms_27 ?_
        refine lv_iconst (v := (-1)) hx hb dX0_giveFarms_30 (by decide) ?_
        refine lv_icmp_ne (tgt := 47) hx hb dX0_giveFarms_31 (by decide) (fun c3093 => absurd c3093 (by decide)) (fun c3093 => ?_)
        refine lv_aload_n hx hb dX0_giveFarms_34 rfl (lv_at hl 1 rfl) ?_
        refine lv_bipush (v := 6) hx hb dX0_giveFarms_35 (by decide) ?_
        obtain ⟨V3094, m3095⟩ := ctl_of hT hr_stk shc_50
        have hFc := gA_free hG hA hS
        refine va_calli (va_runV (As := [.int 6]) (rest := []) ⟨hx, hb, hml, hown, hts⟩ (c_isRuledZ l dC dI kA adK adV G H nC nS o0 lw kn ln sf sto stp9 stk fa9 vK vF vT vS V3094 u3056 A9 ((zLs (fun _ => 0) vA vD vC vU vI vW (fun _ => 0)) i1) hT hr_o0 m3070 hr_lw m3071 hr_kn m3072 m3073 hr_sf m3074 hr_sto m3075 hr_stp9 m3076 hr_stk m3068 hr_fa9 (by have q8 := ti_all ln; omega) hrp hzk hln (by have f9 := hf3089; rw [ex3039, ex3041, ex3043, ex3045, ex3047, ex3050] at f9; exact f9) m3060 m3061 m3062 m3063 m3095 m3057 (by omega) (by omega)) (cwV 1 hts (goodIn_app (goodIn_r _ [61, 62, 63, 9] rfl (by decide +kernel)) (goodIn_ca (goodIn_r _ [38, 39, 26, 40, 41, 42, 43, 44, 45, 46, 47, 48, 49, 50, 17, 51, 52, 53, 54, 55, 56, 57, 58, 59, 60] rfl (by decide +kernel)) (bs2_in _ _))) rfl rfl rfl (by decide +kernel) ⟨(Nat.le_of_ble_eq_true rfl), (Nat.le_of_ble_eq_true rfl)⟩) ⟨fun a U g mk q => by obtain ⟨q0, q1, qK, qE⟩ := q; exact ⟨q0, q1, va_K.moved (u := U) (U := U.calling g mk a) (Vm.Alike.refl U.vm) qK, EVC.blind g mk a qE⟩, gH_rc hK hT hr_o0 shc_3 rfl, fun U hU hW => ⟨rfl, hU, va_K.moved hW.alike hK, hE.call hS hFc hU hW⟩⟩ rfl rfl hl.1 rfl (lv_room (Nat.le_of_ble_eq_true rfl)) dX0_giveFarms_37 ⟨(Nat.le_of_ble_eq_true rfl), (Nat.le_of_ble_eq_true rfl)⟩) hS (fun q _ h => hFc q h) hFc (fun r3096 u t H locs ht hvm hw3097 hB _ _ hS => ?_)
        obtain ⟨hT, hF1⟩ := hB
        rw [ht] at hT hF1
        have m3098 := m3058.kept (hF1.arr hr_mk9 skc_57 (by decide))
        have m3099 := m3059.kept (hF1.arr hr_hd9 skc_54 (by decide))
        have m3100 := m3060.kept (hF1.arr hr_kn skc_42 (by decide))
        have m3101 := m3061.kept (hF1.arr hr_sf skc_47 (by decide))
        have m3102 := m3062.kept (hF1.arr hr_sto skc_48 (by decide))
        have m3103 := m3063.kept (hF1.arr hr_stp9 skc_49 (by decide))
        have m3104 := (hF1.fld hr_o0 skc_3 (k := 6) (by decide) (by decide)).trans m3064
        have m3105 := (hF1.fld hr_o0 skc_3 (k := 3) (by decide) (by decide)).trans m3065
        have m3106 := (hF1.fld hr_o0 skc_3 (k := 0) (by decide) (by decide)).trans m3066
        have m3107 := (hF1.fld hr_o0 skc_3 (k := 16) (by decide) (by decide)).trans m3067
        have m3108 := (hF1.fld hr_o0 skc_3 (k := 5) (by decide) (by decide)).trans m3068
        have m3109 := (hF1.fld hr_o0 skc_3 (k := 15) (by decide) (by decide)).trans m3069
        have m3110 := (hF1.fld hr_o0 skc_3 (k := 7) (by decide) (by decide)).trans m3070
        have m3111 := (hF1.fld hr_lw skc_7 (k := 2) (by decide) (by decide)).trans m3071
        have m3112 := (hF1.fld hr_lw skc_7 (k := 11) (by decide) (by decide)).trans m3072
        have m3113 := (hF1.fld hr_lw skc_7 (k := 7) (by decide) (by decide)).trans m3073
        have m3114 := (hF1.fld hr_lw skc_7 (k := 8) (by decide) (by decide)).trans m3074
        have m3115 := (hF1.fld hr_lw skc_7 (k := 9) (by decide) (by decide)).trans m3075
        have m3116 := (hF1.fld hr_lw skc_7 (k := 10) (by decide) (by decide)).trans m3076
        have hF := hF.more hF1 (by decide)
        have hF2 := hF2.more hF1 (by decide)
        try dsimp only at hw3097
        obtain ⟨h3130, hf3131⟩ := hw3097
        refine lv_if_ne (tgt := 47) hx hb dX0_giveFarms_40 (by decide) (fun c3132 => ?_) (fun c3132 => ?_)
        · have t3133 : r3096.toInt ≠ 0 := ti_ne c3132 rfl (by decide)
          refine lv_iconst (v := 0) hx hb dX0_giveFarms_47 (by decide) ?_
          refine lv_istore (lv' := [(4, .int 0), (3, .int (nI i1)), (0, .ref o0), (1, .int p0), (2, .ref p1)]) hx hb dX0_giveFarms_48 hl (by decide) rfl (fun ls hl => ?_)
          refine lv_aload_n hx hb dX0_giveFarms_50 rfl (lv_at hl 2 rfl) ?_
          refine tw_getM (v := .ref mk9) hx hb hts bF2_X0 hown hK hT hr_o0 shc_3 rfl 6 (by decide) (ht_at2 hts 3 rfl) (fun _ h9 => h9) m3104 dX0_giveFarms_51 ?_
          refine lv_iload_n hx hb dX0_giveFarms_54 rfl (lv_at hl 1 rfl) ?_
          refine lv_iload hx hb dX0_giveFarms_55 (lv_at hl 0 rfl) ?_
          refine lv_if_eq (tgt := 68) hx hb dX0_giveFarms_57 (by decide) (fun c3134 => ?_) (fun c3134 => absurd c3134 (by decide))
          refine lv_iconst (v := (-1)) hx hb dX0_giveFarms_68 (by decide) ?_
          refine tw_iast (i := (nI i1)) (x := (-1)) hx hb hK hT hG hS hr_mk9 shc_57 rfl (vp_in_nI (by omega) (by decide)) (gi_all _) dX0_giveFarms_69 (fun H locs hT oq m3135 oi hS => ?_)
          have hF := hF.ast hr_mk9 skc_57 oq (by decide)
          have hF2 := hF2.ast hr_mk9 skc_57 oq (by decide)
          have m3136 := m3098.put m3135 oi
          have m3137 := m3099.kept (oq _ (gne hr_hd9 hr_mk9 (by decide)))
          have m3138 := m3100.kept (oq _ (gne hr_kn hr_mk9 (by decide)))
          have m3139 := m3101.kept (oq _ (gne hr_sf hr_mk9 (by decide)))
          have m3140 := m3102.kept (oq _ (gne hr_sto hr_mk9 (by decide)))
          have m3141 := m3103.kept (oq _ (gne hr_stp9 hr_mk9 (by decide)))
          have m3142 := (el_kept (oq _ (gne hr_o0 hr_mk9 (by decide)))).trans m3104
          have m3143 := (el_kept (oq _ (gne hr_o0 hr_mk9 (by decide)))).trans m3105
          have m3144 := (el_kept (oq _ (gne hr_o0 hr_mk9 (by decide)))).trans m3106
          have m3145 := (el_kept (oq _ (gne hr_o0 hr_mk9 (by decide)))).trans m3107
          have m3146 := (el_kept (oq _ (gne hr_o0 hr_mk9 (by decide)))).trans m3108
          have m3147 := (el_kept (oq _ (gne hr_o0 hr_mk9 (by decide)))).trans m3109
          have m3148 := (el_kept (oq _ (gne hr_o0 hr_mk9 (by decide)))).trans m3110
          have m3149 := (el_kept (oq _ (gne hr_lw hr_mk9 (by decide)))).trans m3111
          have m3150 := (el_kept (oq _ (gne hr_lw hr_mk9 (by decide)))).trans m3112
          have m3151 := (el_kept (oq _ (gne hr_lw hr_mk9 (by decide)))).trans m3113
          have m3152 := (el_kept (oq _ (gne hr_lw hr_mk9 (by decide)))).trans m3114
          have m3153 := (el_kept (oq _ (gne hr_lw hr_mk9 (by decide)))).trans m3115
          have m3154 := (el_kept (oq _ (gne hr_lw hr_mk9 (by decide)))).trans m3116
          refine lv_iinc (v := nI (i1 + 1)) (lv' := [(3, .int (nI (i1 + 1))), (4, .int 0), (0, .ref o0), (1, .int p0), (2, .ref p1)]) hx hb dX0_giveFarms_70 hl (k := 1) rfl (nI_add i1 1) (by decide) rfl (fun ls hl => ?_)
          refine lv_goto (tgt := 2) hx hb dX0_giveFarms_73 (by decide) ?_
          exact ih1162 (i1 + 1) (by omega) (by omega) (cu V2 (nI i1).toNatClampNeg (-1 : Int32)) ⟨(zPm_s hj22 (tn_nI (by omega)) (by have x9 := (show (-1 : Int32).toInt = (-1) from (by decide)); rcases hf3131 with ⟨h8, h7⟩ | ⟨h8, h7⟩; (exact Or.inr ⟨by omega, h7⟩); exact Or.inl ⟨by omega, h7⟩)), (by omega)⟩ _ _ hT hF hF2 hS m3136 m3137 m3138 m3139 m3140 m3141 m3142 m3143 m3144 m3145 m3146 m3147 m3148 m3149 m3150 m3151 m3152 m3153 m3154 ls (lv_sub hl [0, 2, 3, 4] rfl)
        · have t3167 : r3096.toInt = 0 := ti_eq c3132 rfl (by decide)
          refine lv_iconst (v := 1) hx hb dX0_giveFarms_43 (by decide) ?_
          refine lv_goto (tgt := 48) hx hb dX0_giveFarms_44 (by decide) ?_
          refine lv_istore (lv' := [(4, .int 1), (3, .int (nI i1)), (0, .ref o0), (1, .int p0), (2, .ref p1)]) hx hb dX0_giveFarms_48 hl (by decide) rfl (fun ls hl => ?_)
          refine lv_aload_n hx hb dX0_giveFarms_50 rfl (lv_at hl 2 rfl) ?_
          refine tw_getM (v := .ref mk9) hx hb hts bF2_X0 hown hK hT hr_o0 shc_3 rfl 6 (by decide) (ht_at2 hts 3 rfl) (fun _ h9 => h9) m3104 dX0_giveFarms_51 ?_
          refine lv_iload_n hx hb dX0_giveFarms_54 rfl (lv_at hl 1 rfl) ?_
          refine lv_iload hx hb dX0_giveFarms_55 (lv_at hl 0 rfl) ?_
          refine lv_if_eq (tgt := 68) hx hb dX0_giveFarms_57 (by decide) (fun c3168 => absurd c3168 (by decide)) (fun c3168 => ?_)
          refine lv_aload_n hx hb dX0_giveFarms_60 rfl (lv_at hl 2 rfl) ?_
          refine lv_iconst (v := 4) hx hb dX0_giveFarms_61 (by decide) ?_
          have hFc := gA_free hG hA hS
          refine va_calli (va_runV (As := [.int 4]) (rest := [.int (nI i1), .ref mk9]) ⟨hx, hb, hml, hown, hts⟩ (c_ruledN l dC dI kA adK adV G H nC nS o0 4 hT hr_o0 (by omega) (by omega)) (cwV 1 hts (goodIn_app (goodIn_r _ [70, 71, 72, 9] rfl (by decide +kernel)) (goodIn_ca (goodIn_r _ [64, 39, 26, 65, 41, 42, 43, 44, 45, 46, 47, 48, 49, 50, 17, 51, 52, 53, 54, 55, 56, 57, 66, 67, 68, 69] rfl (by decide +kernel)) (bs2_in _ _))) rfl rfl rfl (by decide +kernel) ⟨(Nat.le_of_ble_eq_true rfl), (Nat.le_of_ble_eq_true rfl)⟩) ⟨fun a U g mk q => by obtain ⟨q0, q1, qK, qE⟩ := q; exact ⟨q0, q1, va_K.moved (u := U) (U := U.calling g mk a) (Vm.Alike.refl U.vm) qK, EVC.blind g mk a qE⟩, gH_rc hK hT hr_o0 shc_3 rfl, fun U hU hW => ⟨rfl, hU, va_K.moved hW.alike hK, hE.call hS hFc hU hW⟩⟩ rfl rfl hl.1 rfl (lv_room (Nat.le_of_ble_eq_true rfl)) dX0_giveFarms_62 ⟨(Nat.le_of_ble_eq_true rfl), (Nat.le_of_ble_eq_true rfl)⟩) hS (fun q _ h => hFc q h) hFc (fun r3169 u t H locs ht hvm hw3170 hB _ _ hS => ?_)
          obtain ⟨hT, hF1⟩ := hB
          rw [ht] at hT hF1
          have m3171 := m3098.kept (hF1.arr hr_mk9 skc_57 (by decide))
          have m3172 := m3099.kept (hF1.arr hr_hd9 skc_54 (by decide))
          have m3173 := m3100.kept (hF1.arr hr_kn skc_42 (by decide))
          have m3174 := m3101.kept (hF1.arr hr_sf skc_47 (by decide))
          have m3175 := m3102.kept (hF1.arr hr_sto skc_48 (by decide))
          have m3176 := m3103.kept (hF1.arr hr_stp9 skc_49 (by decide))
          have m3177 := (hF1.fld hr_o0 skc_3 (k := 6) (by decide) (by decide)).trans m3104
          have m3178 := (hF1.fld hr_o0 skc_3 (k := 3) (by decide) (by decide)).trans m3105
          have m3179 := (hF1.fld hr_o0 skc_3 (k := 0) (by decide) (by decide)).trans m3106
          have m3180 := (hF1.fld hr_o0 skc_3 (k := 16) (by decide) (by decide)).trans m3107
          have m3181 := (hF1.fld hr_o0 skc_3 (k := 5) (by decide) (by decide)).trans m3108
          have m3182 := (hF1.fld hr_o0 skc_3 (k := 15) (by decide) (by decide)).trans m3109
          have m3183 := (hF1.fld hr_o0 skc_3 (k := 7) (by decide) (by decide)).trans m3110
          have m3184 := (hF1.fld hr_lw skc_7 (k := 2) (by decide) (by decide)).trans m3111
          have m3185 := (hF1.fld hr_lw skc_7 (k := 11) (by decide) (by decide)).trans m3112
          have m3186 := (hF1.fld hr_lw skc_7 (k := 7) (by decide) (by decide)).trans m3113
          have m3187 := (hF1.fld hr_lw skc_7 (k := 8) (by decide) (by decide)).trans m3114
          have m3188 := (hF1.fld hr_lw skc_7 (k := 9) (by decide) (by decide)).trans m3115
          have m3189 := (hF1.fld hr_lw skc_7 (k := 10) (by decide) (by decide)).trans m3116
          have hF := hF.more hF1 (by decide)
          have hF2 := hF2.more hF1 (by decide)
          try dsimp only at hw3170
          have h3202 := hw3170
          refine lv_goto (tgt := 69) hx hb dX0_giveFarms_65 (by decide) ?_
          refine tw_iast (i := (nI i1)) (x := r3169) hx hb hK hT hG hS hr_mk9 shc_57 rfl (vp_in_nI (by omega) (by decide)) (gi_all _) dX0_giveFarms_69 (fun H locs hT oq m3203 oi hS => ?_)
          have hF := hF.ast hr_mk9 skc_57 oq (by decide)
          have hF2 := hF2.ast hr_mk9 skc_57 oq (by decide)
          have m3204 := m3171.put m3203 oi
          have m3205 := m3172.kept (oq _ (gne hr_hd9 hr_mk9 (by decide)))
          have m3206 := m3173.kept (oq _ (gne hr_kn hr_mk9 (by decide)))
          have m3207 := m3174.kept (oq _ (gne hr_sf hr_mk9 (by decide)))
          have m3208 := m3175.kept (oq _ (gne hr_sto hr_mk9 (by decide)))
          have m3209 := m3176.kept (oq _ (gne hr_stp9 hr_mk9 (by decide)))
          have m3210 := (el_kept (oq _ (gne hr_o0 hr_mk9 (by decide)))).trans m3177
          have m3211 := (el_kept (oq _ (gne hr_o0 hr_mk9 (by decide)))).trans m3178
          have m3212 := (el_kept (oq _ (gne hr_o0 hr_mk9 (by decide)))).trans m3179
          have m3213 := (el_kept (oq _ (gne hr_o0 hr_mk9 (by decide)))).trans m3180
          have m3214 := (el_kept (oq _ (gne hr_o0 hr_mk9 (by decide)))).trans m3181
          have m3215 := (el_kept (oq _ (gne hr_o0 hr_mk9 (by decide)))).trans m3182
          have m3216 := (el_kept (oq _ (gne hr_o0 hr_mk9 (by decide)))).trans m3183
          have m3217 := (el_kept (oq _ (gne hr_lw hr_mk9 (by decide)))).trans m3184
          have m3218 := (el_kept (oq _ (gne hr_lw hr_mk9 (by decide)))).trans m3185
          have m3219 := (el_kept (oq _ (gne hr_lw hr_mk9 (by decide)))).trans m3186
          have m3220 := (el_kept (oq _ (gne hr_lw hr_mk9 (by decide)))).trans m3187
          have m3221 := (el_kept (oq _ (gne hr_lw hr_mk9 (by decide)))).trans m3188
          have m3222 := (el_kept (oq _ (gne hr_lw hr_mk9 (by decide)))).trans m3189
          refine lv_iinc (v := nI (i1 + 1)) (lv' := [(3, .int (nI (i1 + 1))), (4, .int 1), (0, .ref o0), (1, .int p0), (2, .ref p1)]) hx hb dX0_giveFarms_70 hl (k := 1) rfl (nI_add i1 1) (by decide) rfl (fun ls hl => ?_)
          refine lv_goto (tgt := 2) hx hb dX0_giveFarms_73 (by decide) ?_
          exact ih1162 (i1 + 1) (by omega) (by omega) (cu V2 (nI i1).toNatClampNeg r3169) ⟨(zPm_s hj22 (tn_nI (by omega)) (by have x9 := (show r3169.toInt = r3169.toInt from rfl); rcases hf3131 with ⟨h8, h7⟩ | ⟨h8, h7⟩; (exact Or.inr ⟨by omega, h7⟩); exact Or.inl ⟨by omega, h7⟩)), (by omega)⟩ _ _ hT hF hF2 hS m3204 m3205 m3206 m3207 m3208 m3209 m3210 m3211 m3212 m3213 m3214 m3215 m3216 m3217 m3218 m3219 m3220 m3221 m3222 ls (lv_sub hl [0, 2, 3, 4] rfl)
  exact key1162 (60 - 0) 0 (by omega) (Nat.le_refl _) vM0 ⟨zPm_0, (by omega)⟩ _ _ hT hF hF2 hS hc_vM0 hc_vh hc_vK hc_vF hc_vT hc_vS hm_mk9 hm_hd9 hm_sA hm_fm hm_fa9 hm_hl hm_lw hm_kn hm_ln hm_sf hm_sto hm_stp9 hm_stk ls (lv_sub hl [0, 1, 2, 3] rfl)
def w_c_giveFarmsH : List Cond := .code yX0_giveFarms cX0_giveFarms 7 (some .int) :: (HAppend.hAppend (α := List Cond) (β := List Cond) (γ := List Cond) [.fieldLink RX0 75 "SeaLand$Board" "settled" "I", .fieldLink RX0 185 "SeaLand$Board" "holding" "I", .code yX0_firstByMark cX0_firstByMark 3 (some .int), .fieldLink RX0 37 "SeaLand$Board" "marks" "[I", .fieldLink RX0 11 "SeaLand$Board" "settlers" "[LSeaLand$Settler;", .methodLink RX0 173 yX0_firstByMark, .instanceMethod yX0_firstByMark, .selects RX0 yX0_firstByMark yX0_firstByMark, .initialized RX0, .code yX0_bestFreeFarm cX0_bestFreeFarm 6 (some .int), .fieldLink RX0 143 "SeaLand$Board" "farms" "I", .fieldLink RX0 24 "SeaLand$Board" "held" "[Z", .code yX0_worthOf cX0_worthOf 7 (some .int), .fieldLink RX0 17 "SeaLand$Board" "farmOf" "[I", .methodLink RX0 161 Lib.Math.max.name, .static Lib.Math.max.name, .initialized "java/lang/Math", .code Lib.Math.max.name Lib.Math.max.code 2 (some .int), .methodLink RX0 191 yX0_worthOf, .instanceMethod yX0_worthOf, .selects RX0 yX0_worthOf yX0_worthOf, .methodLink RX0 181 yX0_bestFreeFarm, .instanceMethod yX0_bestFreeFarm, .selects RX0 yX0_bestFreeFarm yX0_bestFreeFarm, .code yX0_gatherFacts cX0_gatherFacts 3 none, .fieldLink RX0 33 "SeaLand$Board" "facts" "[J", .code yX0_acresOf cX0_acresOf 4 (some .int), .methodLink RX0 98 yX0_acresOf, .instanceMethod yX0_acresOf, .selects RX0 yX0_acresOf yX0_acresOf, .code yX0_nearOf cX0_nearOf 5 (some .int), .code yX3_stepsToBank cX3_stepsToBank 4 (some .int), .fieldLink RX3 47 "SeaLand$Lake" "built" "I", .fieldLink RX3 27 "SeaLand$Lake" "works" "[LSeaLand$Work;", .code yX10_isBank cX10_isBank 1 (some .boolean), .fieldLink RX10 18 "SeaLand$Work" "kind" "I", .methodLink RX3 67 yX10_isBank, .instanceMethod yX10_isBank, .selects RX10 yX10_isBank yX10_isBank, .initialized RX10, .code yX11_stepsApart cX11_stepsApart 2 (some .int), .methodLink RX11 580 Lib.Math.abs.name, .static Lib.Math.abs.name, .code Lib.Math.abs.name Lib.Math.abs.code 1 (some .int), .initialized RX11, .static yX11_stepsApart, .methodLink RX3 71 Lib.Math.min.name, .static Lib.Math.min.name, .code Lib.Math.min.name Lib.Math.min.code 2 (some .int), .methodLink RX0 138 yX3_stepsToBank, .instanceMethod yX3_stepsToBank, .selects RX3 yX3_stepsToBank yX3_stepsToBank, .initialized RX3, .methodLink RX0 166 Lib.Math.min.name, .methodLink RX0 123 yX0_nearOf, .instanceMethod yX0_nearOf, .selects RX0 yX0_nearOf yX0_nearOf, .methodLink RX0 84 yX0_gatherFacts, .instanceMethod yX0_gatherFacts, .selects RX0 yX0_gatherFacts yX0_gatherFacts, .code yX0_isRuled cX0_isRuled 2 (some .boolean), .fieldLink RX0 41 "SeaLand$Board" "force" "LSeaLand$Law;", .code yX4_firstThatHolds cX4_firstThatHolds 4 (some .int), .fieldLink RX4 60 "SeaLand$Law" "lines" "I", .fieldLink RX4 18 "SeaLand$Law" "kinds" "[I", .code yX4_lineHolds cX4_lineHolds 6 (some .boolean), .fieldLink RX4 33 "SeaLand$Law" "stepFrom" "[I", .fieldLink RX4 36 "SeaLand$Law" "stepTo" "[I", .fieldLink RX4 39 "SeaLand$Law" "steps" "[I", .fieldLink RX4 42 "SeaLand$Law" "stack" "[J", .code yX4_joined cX4_joined 5 (some .long), .methodLink RX4 199 Lib.MathLoose.max_long.x, .static Lib.MathLoose.max_long.x, .code Lib.MathLoose.max_long.x Lib.MathLoose.max_long.code 4 (some .long), .methodLink RX4 195 yX4_joined, .static yX4_joined, .initialized RX4, .methodLink RX4 203 yX4_lineHolds, .instanceMethod yX4_lineHolds, .selects RX4 yX4_lineHolds yX4_lineHolds, .methodLink RX0 134 yX4_firstThatHolds, .instanceMethod yX4_firstThatHolds, .selects RX4 yX4_firstThatHolds yX4_firstThatHolds, .methodLink RX0 169 yX0_isRuled, .instanceMethod yX0_isRuled, .selects RX0 yX0_isRuled yX0_isRuled, .code yX0_ruled cX0_ruled 2 (some .int), .code yX4_sumThatHolds cX4_sumThatHolds 6 (some .long), .fieldLink RX4 21 "SeaLand$Law" "firsts" "[I", .methodLink RX0 130 yX4_sumThatHolds, .instanceMethod yX4_sumThatHolds, .selects RX4 yX4_sumThatHolds yX4_sumThatHolds, .methodLink RX0 88 yX0_ruled, .instanceMethod yX0_ruled, .selects RX0 yX0_ruled yX0_ruled] bs2)
set_option maxHeartbeats 4000000 in
set_option maxRecDepth 100000 in
theorem c_giveFarmsH (l : Launch) (dC : Nat → ClassId) (dI : Nat → Nat → Nat) (kA : Nat → ClassId) (adK adV : Nat → Nat) (G : gT) (H0 : Heap) (nC nS : Int) (o0 : Nat) (p0 : Int32) (p1 : Nat) (hd9 : Nat) (hl : Int32) (vh : Nat → Int32)  (hT : gH (dC, dI) kA (SHc nC nS) G H0) (hr_p1 : G p1 = some 6) (hr_o0 : G o0 = some 3) (hm_hd9 : el H0 o0 (dI 3 3) = some (.ref hd9)) (hr_hd9 : G hd9 = some 54) (hm_hl : el H0 o0 (dI 3 15) = some (.int hl)) (hq0 : 0 ≤ p0.toInt ∧ p0.toInt ≤ 60) (hq1 : 0 ≤ hl.toInt ∧ hl.toInt ≤ 30) (hct : zct vh 30 = hl.toInt) (hc_vh : ct H0 hd9 30 vh) (hgC : 0 ≤ nC ∧ nC ≤ 40) (hgS : 0 ≤ nS ∧ nS ≤ 60) : Met l yX0_giveFarms w_c_giveFarmsH ({ frames := 5, cells := 0, slots := 0, locals := 135 }) (va_Pc [.ref o0, .int p0, .ref p1] (fun U => U.heap = H0 ∧ va_K (dC, dI) vwCl (tyl kA) U ∧ EVC adK adV (gA G H0.size) U U.heap)) (va_Qi (fun (r : Int32) (u : Int32 × (Nat → Int32)) => match u with | (hl1, vh1) => (0 ≤ r.toInt ∧ r.toInt ≤ 60) ∧ (zct vh1 30 = hl1.toInt ∧ hl.toInt ≤ hl1.toInt)) (fun (u : Int32 × (Nat → Int32)) (t : State) => match u with | (hl1, vh1) => gH (dC, dI) kA (SHc nC nS) G t.heap ∧ gF (dC, dI) SKc G ([(3, 15), (10, 7), (50, 0), (54, 0), (56, 0), (57, 0)] : List (Nat × Nat)) H0 t.heap ∧ el t.heap o0 (dI 3 15) = some (.int hl1) ∧ ct t.heap hd9 30 vh1) (gA G H0.size)) 0 0 (gA G H0.size) := by
  refine Met.ofW (cc := cX0_giveFarms) (maxL := 7) (ret := (some .int)) (by decide) rfl ?_
  intro p e s m args below meth c s₁ B hml hv
  obtain ⟨rfl, hH0, hK, hE⟩ := hv
  have hx := B.exec
  have hb := B.bytes
  have hr := B.returns
  have hts := atoms_spec (ws := w_c_giveFarmsH) B.pre
  have hown : s.vm.findClass RX0 = some m.cls := findClass_of_methodNamed B.named
  have hlocks := B.notSynchronized
  subst hH0
  generalize hAe : gA G s.heap.size = A at hE ⊢
  have hA : ∀ q : Nat, s.heap.size ≤ q → A q := fun q h => by rw [← hAe]; exact Or.inr h
  have hG := gA_of hAe
  have hS : va_S A s.heap s.heap [] := va_S.rf
  have hF : gF (dC, dI) SKc G ([(3, 15), (10, 7), (50, 0), (54, 0), (56, 0), (57, 0)] : List (Nat × Nat)) s.heap s.heap := gF.rf
  have hl := lv_entry ([.ref o0, .int p0, .ref p1]) (n := 7) (Nat.le_of_ble_eq_true rfl)
  rw [lg_entry_eq]
  generalize (lg_sl ([.ref o0, .int p0, .ref p1]) ++ List.replicate (7 - (lg_sl ([.ref o0, .int p0, .ref p1])).length) Slot.unset).toArray = ls at hl ⊢
  have hl : lv_has ls 7 [(0, .ref o0), (1, .int p0), (2, .ref p1)] := hl
  refine lv_iconst (v := 0) hx hb dX0_giveFarms_0 (by decide) ?_
  refine lv_istore_n (lv' := [(3, .int 0), (0, .ref o0), (1, .int p0), (2, .ref p1)]) hx hb dX0_giveFarms_1 rfl hl (by decide) rfl (fun ls hl => ?_)
  have key290 : ∀ (n290 i1 : Nat), i1 + n290 = 60 → 0 ≤ i1 → ∀ (H : Heap) (locs : List Loc), gH (dC, dI) kA (SHc nC nS) G H → gF (dC, dI) SKc G ([(3, 15), (10, 7), (50, 0), (54, 0), (56, 0), (57, 0)] : List (Nat × Nat)) s.heap H → va_S A s.heap H locs → ct H hd9 30 vh → el H o0 (dI 3 3) = some (.ref hd9) → el H o0 (dI 3 15) = some (.int hl) → ∀ ls : Array Slot, lv_has ls 7 [(3, .int (nI i1)), (0, .ref o0), (1, .int p0), (2, .ref p1)] → W p l e (headSpec w_c_giveFarmsH ({ frames := 5, cells := 0, slots := 0, locals := 135 })).room s m #[.ref o0, .int p0, .ref p1] below meth c H locs 0 0 (MQ below (va_Qi (fun (r : Int32) (u : Int32 × (Nat → Int32)) => match u with | (hl1, vh1) => (0 ≤ r.toInt ∧ r.toInt ≤ 60) ∧ (zct vh1 30 = hl1.toInt ∧ hl.toInt ≤ hl1.toInt)) (fun (u : Int32 × (Nat → Int32)) (t : State) => match u with | (hl1, vh1) => gH (dC, dI) kA (SHc nC nS) G t.heap ∧ gF (dC, dI) SKc G ([(3, 15), (10, 7), (50, 0), (54, 0), (56, 0), (57, 0)] : List (Nat × Nat)) s.heap t.heap ∧ el t.heap o0 (dI 3 15) = some (.int hl1) ∧ ct t.heap hd9 30 vh1) A) #[.ref o0, .int p0, .ref p1] s 0 0 A) (F0 m 2 ls []) := by
    intro n290
    induction n290 with
    | zero =>
      intro i1 hn290 hlo291  H locs hT hF hS m2 m3 m4 ls hl
      obtain rfl : 60 = i1 := by omega
      refine lv_iload_n hx hb dX0_giveFarms_2 rfl (lv_at hl 0 rfl) ?_
      refine lv_aload_n hx hb dX0_giveFarms_3 rfl (lv_at hl 1 rfl) ?_
      refine tw_get hx hb hts bF2_X0 hown hK hT hr_o0 shc_3 rfl 14 (by decide) (ht_at2 hts 0 rfl) (fun _ h9 => h9) dX0_giveFarms_4 (fun v9 m292 h9 => ?_)
      obtain ⟨x293, rfl, gx293, kx293⟩ := h9 _ rfl
      refine lv_icmp_ge (tgt := 76) hx hb dX0_giveFarms_7 (by decide) (fun c294 => ?_) (fun c294 => (by exfalso; have q9 : ((60 : Nat) : Int) < x293.toInt := ti_nle c294 rfl (nI_toInt (by omega)); omega))
      have t295 : x293.toInt ≤ ((60 : Nat) : Int) := ti_le c294 rfl (nI_toInt (by omega))
      refine lv_iconst (v := 0) hx hb dX0_giveFarms_76 (by decide) ?_
      refine lv_istore_n (lv' := [(3, .int 0), (0, .ref o0), (1, .int p0), (2, .ref p1)]) hx hb dX0_giveFarms_77 rfl hl (by decide) rfl (fun ls hl => ?_)
      refine lv_iconst (v := 0) hx hb dX0_giveFarms_78 (by decide) ?_
      refine lv_istore (lv' := [(4, .int 0), (3, .int 0), (0, .ref o0), (1, .int p0), (2, .ref p1)]) hx hb dX0_giveFarms_79 hl (by decide) rfl (fun ls hl => ?_)
      have key394 : ∀ (n394 i296 : Nat), i296 + n394 = 60 → 0 ≤ i296 → ∀ (z297 : Int32), ∀ (V299 : Nat → Int32), ((0 ≤ z297.toInt ∧ z297.toInt ≤ 60) ∧ (zct V299 30 = hl.toInt + z297.toInt) ∧ (0 ≤ z297.toInt ∧ z297.toInt ≤ ((i296 : Nat) : Int))) → ∀ (H : Heap) (locs : List Loc), gH (dC, dI) kA (SHc nC nS) G H → gF (dC, dI) SKc G ([(3, 15), (10, 7), (50, 0), (54, 0), (56, 0), (57, 0)] : List (Nat × Nat)) s.heap H → va_S A s.heap H locs → ct H hd9 30 V299 → el H o0 (dI 3 3) = some (.ref hd9) → el H o0 (dI 3 15) = some (.int hl) → el H o0 (dI 3 14) = some (.int x293) → ∀ ls : Array Slot, lv_has ls 7 [(4, .int (nI i296)), (3, .int z297), (0, .ref o0), (1, .int p0), (2, .ref p1)] → W p l e (headSpec w_c_giveFarmsH ({ frames := 5, cells := 0, slots := 0, locals := 135 })).room s m #[.ref o0, .int p0, .ref p1] below meth c H locs 0 0 (MQ below (va_Qi (fun (r : Int32) (u : Int32 × (Nat → Int32)) => match u with | (hl1, vh1) => (0 ≤ r.toInt ∧ r.toInt ≤ 60) ∧ (zct vh1 30 = hl1.toInt ∧ hl.toInt ≤ hl1.toInt)) (fun (u : Int32 × (Nat → Int32)) (t : State) => match u with | (hl1, vh1) => gH (dC, dI) kA (SHc nC nS) G t.heap ∧ gF (dC, dI) SKc G ([(3, 15), (10, 7), (50, 0), (54, 0), (56, 0), (57, 0)] : List (Nat × Nat)) s.heap t.heap ∧ el t.heap o0 (dI 3 15) = some (.int hl1) ∧ ct t.heap hd9 30 vh1) A) #[.ref o0, .int p0, .ref p1] s 0 0 A) (F0 m 81 ls []) := by
        intro n394
        induction n394 with
        | zero =>
          intro i296 hn394 hlo395 z297 V299 ⟨h298, hj304, hj305⟩ H locs hT hF hS m300 m301 m302 m303 ls hl
          obtain rfl : 60 = i296 := by omega
          refine lv_iload hx hb dX0_giveFarms_81 (lv_at hl 0 rfl) ?_
          refine lv_iload_n hx hb dX0_giveFarms_83 rfl (lv_at hl 3 rfl) ?_
          refine lv_icmp_ge (tgt := 155) hx hb dX0_giveFarms_84 (by decide) (fun c396 => ?_) (fun c396 => (by exfalso; have q9 : ((60 : Nat) : Int) < p0.toInt := ti_nle c396 rfl (nI_toInt (by omega)); omega))
          have t397 : p0.toInt ≤ ((60 : Nat) : Int) := ti_le c396 rfl (nI_toInt (by omega))
          refine lv_aload_n hx hb dX0_giveFarms_155 rfl (lv_at hl 2 rfl) ?_
          refine lv_dup hx hb dX0_giveFarms_156 rfl ?_
          refine tw_getM (v := .int hl) hx hb hts bF2_X0 hown hK hT hr_o0 shc_3 rfl 15 (by decide) (ht_at2 hts 1 rfl) (fun _ h9 => h9) m302 dX0_giveFarms_157 ?_
          refine lv_iload_n hx hb dX0_giveFarms_160 rfl (lv_at hl 1 rfl) ?_
          refine lv_iadd hx hb dX0_giveFarms_161 ?_
          refine lv_topi (fun x398 ex398 => ?_)
          have t399 : x398.toInt = hl.toInt + z297.toInt := ti_add ex398 rfl rfl (by omega) (by omega)
          refine tw_put (v := .int x398) (ty := .int) hx hb hts bF2_X0 tyX0 tyX0_ok nmX0 hown hK hT hG hS hr_o0 shc_3 rfl 15 (by decide) (ht_at2 hts 1 rfl) (fun _ h9 => h9) rfl (by decide +kernel) rfl rfl (gl_at rfl (gi_all _)) dX0_giveFarms_162 (fun H locs hT oq m400 oj hS => ?_)
          have hF := hF.put hr_o0 skc_3 oq oj (by decide)
          have m401 := m300.kept (oq _ (gne hr_hd9 hr_o0 (by decide)))
          refine lv_iload_n hx hb dX0_giveFarms_165 rfl (lv_at hl 1 rfl) ?_
          exact W.iret (v := z297) hx hb hr (fun t ht hW => ⟨⟨z297, (x398, V299), rfl, (by exact ⟨(by have q8 := ti_all z297; omega), (by have := (show x398.toInt = x398.toInt from rfl); have := hj304; exact ⟨by omega, by omega⟩)⟩), by (try dsimp only); rw [ht]; exact ⟨hT, hF, m400, m401⟩⟩, hS.F ht⟩) hS.2.2 dX0_giveFarms_166
        | succ n394 ih394 =>
          intro i296 hn394 hlo395 z297 V299 ⟨h298, hj304, hj305⟩ H locs hT hF hS m300 m301 m302 m303 ls hl
          have hlt403 : i296 < 60 := by omega
          refine lv_iload hx hb dX0_giveFarms_81 (lv_at hl 0 rfl) ?_
          refine lv_iload_n hx hb dX0_giveFarms_83 rfl (lv_at hl 3 rfl) ?_
          refine lv_icmp_ge (tgt := 155) hx hb dX0_giveFarms_84 (by decide) (fun c404 => ?_) (fun c404 => ?_)
          · have t405 : p0.toInt ≤ ((i296 : Nat) : Int) := ti_le c404 rfl (nI_toInt (by omega))
            refine lv_aload_n hx hb dX0_giveFarms_155 rfl (lv_at hl 2 rfl) ?_
            refine lv_dup hx hb dX0_giveFarms_156 rfl ?_
            refine tw_getM (v := .int hl) hx hb hts bF2_X0 hown hK hT hr_o0 shc_3 rfl 15 (by decide) (ht_at2 hts 1 rfl) (fun _ h9 => h9) m302 dX0_giveFarms_157 ?_
            refine lv_iload_n hx hb dX0_giveFarms_160 rfl (lv_at hl 1 rfl) ?_
            refine lv_iadd hx hb dX0_giveFarms_161 ?_
            refine lv_topi (fun x406 ex406 => ?_)
            have t407 : x406.toInt = hl.toInt + z297.toInt := ti_add ex406 rfl rfl (by omega) (by omega)
            refine tw_put (v := .int x406) (ty := .int) hx hb hts bF2_X0 tyX0 tyX0_ok nmX0 hown hK hT hG hS hr_o0 shc_3 rfl 15 (by decide) (ht_at2 hts 1 rfl) (fun _ h9 => h9) rfl (by decide +kernel) rfl rfl (gl_at rfl (gi_all _)) dX0_giveFarms_162 (fun H locs hT oq m408 oj hS => ?_)
            have hF := hF.put hr_o0 skc_3 oq oj (by decide)
            have m409 := m300.kept (oq _ (gne hr_hd9 hr_o0 (by decide)))
            refine lv_iload_n hx hb dX0_giveFarms_165 rfl (lv_at hl 1 rfl) ?_
            exact W.iret (v := z297) hx hb hr (fun t ht hW => ⟨⟨z297, (x406, V299), rfl, (by exact ⟨(by have q8 := ti_all z297; omega), (by have := (show x406.toInt = x406.toInt from rfl); have := hj304; exact ⟨by omega, by omega⟩)⟩), by (try dsimp only); rw [ht]; exact ⟨hT, hF, m408, m409⟩⟩, hS.F ht⟩) hS.2.2 dX0_giveFarms_166
          · have t412 : ((i296 : Nat) : Int) < p0.toInt := ti_nle c404 rfl (nI_toInt (by omega))
            refine lv_aload_n hx hb dX0_giveFarms_87 rfl (lv_at hl 2 rfl) ?_
            have hFc := gA_free hG hA hS
            refine va_calli (va_runV (As := []) (rest := []) ⟨hx, hb, hml, hown, hts⟩ (c_firstByMark l dC dI kA adK adV G H nC nS o0 hT hr_o0 (by omega) (by omega)) (cwV 0 hts (goodIn_app (goodIn_r _ [6, 7, 8, 9] rfl (by decide +kernel)) (goodIn_ca (goodIn_r _ [3, 1, 4, 5] rfl (by decide +kernel)) (bs2_in _ _))) rfl rfl rfl (by decide +kernel) ⟨(Nat.le_of_ble_eq_true rfl), (Nat.le_of_ble_eq_true rfl)⟩) ⟨fun a U g mk q => by obtain ⟨q0, q1, qK, qE⟩ := q; exact ⟨q0, q1, va_K.moved (u := U) (U := U.calling g mk a) (Vm.Alike.refl U.vm) qK, EVC.blind g mk a qE⟩, gH_rc hK hT hr_o0 shc_3 rfl, fun U hU hW => ⟨rfl, hU, va_K.moved hW.alike hK, hE.call hS hFc hU hW⟩⟩ rfl rfl hl.1 rfl (lv_room (Nat.le_of_ble_eq_true rfl)) dX0_giveFarms_88 ⟨(Nat.le_of_ble_eq_true rfl), (Nat.le_of_ble_eq_true rfl)⟩) hS (fun q _ h => hFc q h) hFc (fun r413 u t H locs ht hvm hw414 hB _ _ hS => ?_)
            obtain ⟨hT, hF1⟩ := hB
            rw [ht] at hT hF1
            have m415 := m300.kept (hF1.arr hr_hd9 skc_54 (by decide))
            have m416 := (hF1.fld hr_o0 skc_3 (k := 3) (by decide) (by decide)).trans m301
            have m417 := (hF1.fld hr_o0 skc_3 (k := 15) (by decide) (by decide)).trans m302
            have m418 := (hF1.fld hr_o0 skc_3 (k := 14) (by decide) (by decide)).trans m303
            have hF := hF.more hF1 (by decide)
            try dsimp only at hw414
            obtain ⟨h419, hf420⟩ := hw414
            refine lv_istore (lv' := [(5, .int r413), (4, .int (nI i296)), (3, .int z297), (0, .ref o0), (1, .int p0), (2, .ref p1)]) hx hb dX0_giveFarms_91 hl (by decide) rfl (fun ls hl => ?_)
            refine lv_aload_n hx hb dX0_giveFarms_93 rfl (lv_at hl 3 rfl) ?_
            refine lv_aload_n hx hb dX0_giveFarms_94 rfl (lv_at hl 5 rfl) ?_
            refine tw_getN hx hb hts bF2_X3 hown hK hT hr_p1 shc_6 rfl 1 (by decide) (hE.nw 73 rfl) (fun _ h9 => h9) dX0_giveFarms_95 (fun v9 m421 h9 => ?_)
            obtain ⟨b422, rfl, hg423⟩ := h9 _ rfl
            have hFc := gA_free hG hA hS
            refine va_calli (va_runV (As := [.ref b422]) (rest := []) ⟨hx, hb, hml, hown, hts⟩ (c_bestFreeFarmH l dC dI kA adK adV G H nC nS o0 b422 hd9 V299 hT hg423 hr_o0 m416 hr_hd9 m415 (by omega) (by omega)) (cwV 1 hts (goodIn_app (goodIn_r _ [22, 23, 24, 9] rfl (by decide +kernel)) (goodIn_ca (goodIn_r _ [10, 11, 12, 13, 14, 15, 16, 17, 18, 19, 20, 21, 9] rfl (by decide +kernel)) (bs2_in _ _))) rfl rfl rfl (by decide +kernel) ⟨(Nat.le_of_ble_eq_true rfl), (Nat.le_of_ble_eq_true rfl)⟩) ⟨fun a U g mk q => by obtain ⟨q0, q1, qK, qE⟩ := q; exact ⟨q0, q1, va_K.moved (u := U) (U := U.calling g mk a) (Vm.Alike.refl U.vm) qK, EVC.blind g mk a qE⟩, gH_rc hK hT hr_o0 shc_3 rfl, fun U hU hW => ⟨rfl, hU, va_K.moved hW.alike hK, hE.call hS hFc hU hW⟩⟩ rfl rfl hl.1 rfl (lv_room (Nat.le_of_ble_eq_true rfl)) dX0_giveFarms_98 ⟨(Nat.le_of_ble_eq_true rfl), (Nat.le_of_ble_eq_true rfl)⟩) hS (fun q _ h => hFc q h) hFc (fun r424 u t H locs ht hvm hw425 hB _ _ hS => ?_)
            obtain ⟨hT, hF1⟩ := hB
            rw [ht] at hT hF1
            have m426 := m415.kept (hF1.arr hr_hd9 skc_54 (by decide))
            have m427 := (hF1.fld hr_o0 skc_3 (k := 3) (by decide) (by decide)).trans m416
            have m428 := (hF1.fld hr_o0 skc_3 (k := 15) (by decide) (by decide)).trans m417
            have m429 := (hF1.fld hr_o0 skc_3 (k := 14) (by decide) (by decide)).trans m418
            have hF := hF.more hF1 (by decide)
            try dsimp only at hw425
            obtain ⟨h431, hf432⟩ := hw425
            refine lv_istore (lv' := [(6, .int r424), (5, .int r413), (4, .int (nI i296)), (3, .int z297), (0, .ref o0), (1, .int p0), (2, .ref p1)]) hx hb dX0_giveFarms_101 hl (by decide) rfl (fun ls hl => ?_)
            refine lv_iload hx hb dX0_giveFarms_103 (lv_at hl 1 rfl) ?_
            refine lv_iconst (v := (-1)) hx hb dX0_giveFarms_105 (by decide) ?_
            refine lv_icmp_eq (tgt := 155) hx hb dX0_giveFarms_106 (by decide) (fun c433 => ?_) (fun c433 => ?_)
            · have t434 : r413.toInt = (-1) := ti_eq c433 rfl (by decide)
              refine lv_aload_n hx hb dX0_giveFarms_155 rfl (lv_at hl 4 rfl) ?_
              refine lv_dup hx hb dX0_giveFarms_156 rfl ?_
              refine tw_getM (v := .int hl) hx hb hts bF2_X0 hown hK hT hr_o0 shc_3 rfl 15 (by decide) (ht_at2 hts 1 rfl) (fun _ h9 => h9) m428 dX0_giveFarms_157 ?_
              refine lv_iload_n hx hb dX0_giveFarms_160 rfl (lv_at hl 3 rfl) ?_
              refine lv_iadd hx hb dX0_giveFarms_161 ?_
              refine lv_topi (fun x435 ex435 => ?_)
              have t436 : x435.toInt = hl.toInt + z297.toInt := ti_add ex435 rfl rfl (by omega) (by omega)
              refine tw_put (v := .int x435) (ty := .int) hx hb hts bF2_X0 tyX0 tyX0_ok nmX0 hown hK hT hG hS hr_o0 shc_3 rfl 15 (by decide) (ht_at2 hts 1 rfl) (fun _ h9 => h9) rfl (by decide +kernel) rfl rfl (gl_at rfl (gi_all _)) dX0_giveFarms_162 (fun H locs hT oq m437 oj hS => ?_)
              have hF := hF.put hr_o0 skc_3 oq oj (by decide)
              have m438 := m426.kept (oq _ (gne hr_hd9 hr_o0 (by decide)))
              refine lv_iload_n hx hb dX0_giveFarms_165 rfl (lv_at hl 3 rfl) ?_
              exact W.iret (v := z297) hx hb hr (fun t ht hW => ⟨⟨z297, (x435, V299), rfl, (by exact ⟨(by have q8 := ti_all z297; omega), (by have := (show x435.toInt = x435.toInt from rfl); have := hj304; exact ⟨by omega, by omega⟩)⟩), by (try dsimp only); rw [ht]; exact ⟨hT, hF, m437, m438⟩⟩, hS.F ht⟩) hS.2.2 dX0_giveFarms_166
            · have t442 : r413.toInt ≠ (-1) := ti_ne c433 rfl (by decide)
              refine lv_iload hx hb dX0_giveFarms_109 (lv_at hl 0 rfl) ?_
              refine lv_iconst (v := (-1)) hx hb dX0_giveFarms_111 (by decide) ?_
              refine lv_icmp_ne (tgt := 118) hx hb dX0_giveFarms_112 (by decide) (fun c443 => ?_) (fun c443 => ?_)
              · have t444 : r424.toInt ≠ (-1) := ti_ne c443 rfl (by decide)
                refine lv_aload_n hx hb dX0_giveFarms_118 rfl (lv_at hl 4 rfl) ?_
                refine tw_get hx hb hts bF2_X0 hown hK hT hr_o0 shc_3 rfl 6 (by decide) (ht_at2 hts 3 rfl) (fun _ h9 => h9) dX0_giveFarms_119 (fun v9 m445 h9 => ?_)
                obtain ⟨b446, rfl, hg447⟩ := h9 _ rfl
                refine lv_iload hx hb dX0_giveFarms_122 (lv_at hl 1 rfl) ?_
                refine lv_iconst (v := (-1)) hx hb dX0_giveFarms_124 (by decide) ?_
                refine tw_iast (i := r413) (x := (-1)) hx hb hK hT hG hS hg447 shc_57 rfl (vin_t (a := r413.toInt) rfl (by omega) (by omega)) (gi_all _) dX0_giveFarms_125 (fun H locs hT oq m448 oi hS => ?_)
                have hF := hF.ast hg447 skc_57 oq (by decide)
                have m449 := m426.kept (oq _ (gne hr_hd9 hg447 (by decide)))
                have m450 := (el_kept (oq _ (gne hr_o0 hg447 (by decide)))).trans m427
                have m451 := (el_kept (oq _ (gne hr_o0 hg447 (by decide)))).trans m428
                have m452 := (el_kept (oq _ (gne hr_o0 hg447 (by decide)))).trans m429
                refine lv_aload_n hx hb dX0_giveFarms_126 rfl (lv_at hl 4 rfl) ?_
                refine tw_get hx hb hts bF2_X0 hown hK hT hr_o0 shc_3 rfl 0 (by decide) (ht_at2 hts 4 rfl) (fun _ h9 => h9) dX0_giveFarms_127 (fun v9 m455 h9 => ?_)
                obtain ⟨b456, rfl, hg457⟩ := h9 _ rfl
                refine lv_iload hx hb dX0_giveFarms_130 (lv_at hl 1 rfl) ?_
                refine tw_aald (i := r413) hx hb hK hT hg457 shc_51 rfl (vin_t (a := r413.toInt) rfl (by omega) (by omega)) dX0_giveFarms_132 (fun v9 m458 h9 => ?_)
                obtain ⟨b459, rfl, hg460⟩ := (h9.1 (by have q9 := tn_of (show r413.toInt = r413.toInt from rfl) (by omega); omega))
                refine lv_iload hx hb dX0_giveFarms_133 (lv_at hl 0 rfl) ?_
                refine tw_putN (v := .int r424) (ty := .int) hx hb hts bF2_X7 tyX7 tyX7_ok nmX7 hown hK hT hG hS hg460 shc_10 rfl 7 (by decide) (hE.nw 61 rfl) (fun _ h9 => h9) rfl (by decide +kernel) rfl rfl (gl_at rfl (gi_of (show r424.toInt = r424.toInt from rfl) (by omega) (by omega))) dX0_giveFarms_135 (fun H locs hT oq m461 oj hS => ?_)
                have hF := hF.put hg460 skc_10 oq oj (by decide)
                have m462 := m449.kept (oq _ (gne hr_hd9 hg460 (by decide)))
                have m463 := (el_kept (oq _ (gne hr_o0 hg460 (by decide)))).trans m450
                have m464 := (el_kept (oq _ (gne hr_o0 hg460 (by decide)))).trans m451
                have m465 := (el_kept (oq _ (gne hr_o0 hg460 (by decide)))).trans m452
                refine lv_aload_n hx hb dX0_giveFarms_138 rfl (lv_at hl 4 rfl) ?_
                refine tw_getM (v := .ref hd9) hx hb hts bF2_X0 hown hK hT hr_o0 shc_3 rfl 3 (by decide) (ht_at2 hts 11 rfl) (fun _ h9 => h9) m463 dX0_giveFarms_139 ?_
                refine lv_iload hx hb dX0_giveFarms_142 (lv_at hl 0 rfl) ?_
                refine lv_iconst (v := 1) hx hb dX0_giveFarms_144 (by decide) ?_
                refine tw_zast (i := r424) (x := 1) hx hb hK hT hG hS hr_hd9 shc_54 rfl (vin_t (a := r424.toInt) rfl (by omega) (by omega)) (gi_z (rg_t (a := 1) (by decide) (by first | decide | omega) (by first | decide | omega)) (by decide) (by decide)) dX0_giveFarms_145 (fun H locs hT oq m471 oi hS => ?_)
                have hF := hF.ast hr_hd9 skc_54 oq (by decide)
                have m472 := m462.put (show el H hd9 _ = some (.int 1) from m471) oi
                have m473 := (el_kept (oq _ (gne hr_o0 hr_hd9 (by decide)))).trans m463
                have m474 := (el_kept (oq _ (gne hr_o0 hr_hd9 (by decide)))).trans m464
                have m475 := (el_kept (oq _ (gne hr_o0 hr_hd9 (by decide)))).trans m465
                obtain ⟨x482, ex482⟩ : ∃ y : Int32, y = z297 + 1 := ⟨_, rfl⟩
                have t483 : x482.toInt = z297.toInt + 1 := ti_add ex482 rfl (by decide) (by omega) (by omega)
                refine lv_iinc (v := x482) (lv' := [(3, .int x482), (6, .int r424), (5, .int r413), (4, .int (nI i296)), (0, .ref o0), (1, .int p0), (2, .ref p1)]) hx hb dX0_giveFarms_146 hl (k := 3) rfl (by first | (rw [ex482]; done) | (rw [ex482]; rfl)) (by decide) rfl (fun ls hl => ?_)
                refine lv_iinc (v := nI (i296 + 1)) (lv' := [(4, .int (nI (i296 + 1))), (3, .int x482), (6, .int r424), (5, .int r413), (0, .ref o0), (1, .int p0), (2, .ref p1)]) hx hb dX0_giveFarms_149 hl (k := 3) rfl (nI_add i296 1) (by decide) rfl (fun ls hl => ?_)
                refine lv_goto (tgt := 81) hx hb dX0_giveFarms_152 (by decide) ?_
                exact ih394 (i296 + 1) (by omega) (by omega) x482 (cu V299 r424.toNatClampNeg (1 : Int32)) ⟨(by have q9 := (show x482.toInt = x482.toInt from rfl); (try have q8 := ti_all x482); omega), (by have := (show x482.toInt = x482.toInt from rfl); rw [zct_1 (by exact (hf432.resolve_left (fun h8 => by omega)).2.2) (by decide) 30 (by have := tn_of (show r424.toInt = r424.toInt from rfl) (by omega); omega)]; have := hj304; omega), (by have := (show x482.toInt = x482.toInt from rfl); omega)⟩ _ _ hT hF hS m472 m473 m474 m475 ls (lv_sub hl [0, 1, 4, 5, 6] rfl)
              · have t484 : r424.toInt = (-1) := ti_eq c443 rfl (by decide)
                refine lv_goto (tgt := 155) hx hb dX0_giveFarms_115 (by decide) ?_
                refine lv_aload_n hx hb dX0_giveFarms_155 rfl (lv_at hl 4 rfl) ?_
                refine lv_dup hx hb dX0_giveFarms_156 rfl ?_
                refine tw_getM (v := .int hl) hx hb hts bF2_X0 hown hK hT hr_o0 shc_3 rfl 15 (by decide) (ht_at2 hts 1 rfl) (fun _ h9 => h9) m428 dX0_giveFarms_157 ?_
                refine lv_iload_n hx hb dX0_giveFarms_160 rfl (lv_at hl 3 rfl) ?_
                refine lv_iadd hx hb dX0_giveFarms_161 ?_
                refine lv_topi (fun x485 ex485 => ?_)
                have t486 : x485.toInt = hl.toInt + z297.toInt := ti_add ex485 rfl rfl (by omega) (by omega)
                refine tw_put (v := .int x485) (ty := .int) hx hb hts bF2_X0 tyX0 tyX0_ok nmX0 hown hK hT hG hS hr_o0 shc_3 rfl 15 (by decide) (ht_at2 hts 1 rfl) (fun _ h9 => h9) rfl (by decide +kernel) rfl rfl (gl_at rfl (gi_all _)) dX0_giveFarms_162 (fun H locs hT oq m487 oj hS => ?_)
                have hF := hF.put hr_o0 skc_3 oq oj (by decide)
                have m488 := m426.kept (oq _ (gne hr_hd9 hr_o0 (by decide)))
                refine lv_iload_n hx hb dX0_giveFarms_165 rfl (lv_at hl 3 rfl) ?_
                exact W.iret (v := z297) hx hb hr (fun t ht hW => ⟨⟨z297, (x485, V299), rfl, (by exact ⟨(by have q8 := ti_all z297; omega), (by have := (show x485.toInt = x485.toInt from rfl); have := hj304; exact ⟨by omega, by omega⟩)⟩), by (try dsimp only); rw [ht]; exact ⟨hT, hF, m487, m488⟩⟩, hS.F ht⟩) hS.2.2 dX0_giveFarms_166
      exact key394 (60 - 0) 0 (by omega) (Nat.le_refl _) 0 vh ⟨(by have q9 := (show (0 : Int32).toInt = 0 from (by decide)); (try have q8 := ti_all (0 : Int32)); omega), (by have z9 : (0 : Int32).toInt = 0 := (by decide); omega), (by have := (show (0 : Int32).toInt = 0 from (by decide)); omega)⟩ _ _ hT hF hS m2 m3 m4 m292 ls (lv_sub hl [0, 1, 2, 3, 4] rfl)
    | succ n290 ih290 =>
      intro i1 hn290 hlo291  H locs hT hF hS m2 m3 m4 ls hl
      have hlt491 : i1 < 60 := by omega
      refine lv_iload_n hx hb dX0_giveFarms_2 rfl (lv_at hl 0 rfl) ?_
      refine lv_aload_n hx hb dX0_giveFarms_3 rfl (lv_at hl 1 rfl) ?_
      refine tw_get hx hb hts bF2_X0 hown hK hT hr_o0 shc_3 rfl 14 (by decide) (ht_at2 hts 0 rfl) (fun _ h9 => h9) dX0_giveFarms_4 (fun v9 m492 h9 => ?_)
      obtain ⟨x493, rfl, gx493, kx493⟩ := h9 _ rfl
      refine lv_icmp_ge (tgt := 76) hx hb dX0_giveFarms_7 (by decide) (fun c494 => ?_) (fun c494 => ?_)
      · have t495 : x493.toInt ≤ ((i1 : Nat) : Int) := ti_le c494 rfl (nI_toInt (by omega))
        refine lv_iconst (v := 0) hx hb dX0_giveFarms_76 (by decide) ?_
        refine lv_istore_n (lv' := [(3, .int 0), (0, .ref o0), (1, .int p0), (2, .ref p1)]) hx hb dX0_giveFarms_77 rfl hl (by decide) rfl (fun ls hl => ?_)
        refine lv_iconst (v := 0) hx hb dX0_giveFarms_78 (by decide) ?_
        refine lv_istore (lv' := [(4, .int 0), (3, .int 0), (0, .ref o0), (1, .int p0), (2, .ref p1)]) hx hb dX0_giveFarms_79 hl (by decide) rfl (fun ls hl => ?_)
        have key594 : ∀ (n594 i496 : Nat), i496 + n594 = 60 → 0 ≤ i496 → ∀ (z497 : Int32), ∀ (V499 : Nat → Int32), ((0 ≤ z497.toInt ∧ z497.toInt ≤ 60) ∧ (zct V499 30 = hl.toInt + z497.toInt) ∧ (0 ≤ z497.toInt ∧ z497.toInt ≤ ((i496 : Nat) : Int))) → ∀ (H : Heap) (locs : List Loc), gH (dC, dI) kA (SHc nC nS) G H → gF (dC, dI) SKc G ([(3, 15), (10, 7), (50, 0), (54, 0), (56, 0), (57, 0)] : List (Nat × Nat)) s.heap H → va_S A s.heap H locs → ct H hd9 30 V499 → el H o0 (dI 3 3) = some (.ref hd9) → el H o0 (dI 3 15) = some (.int hl) → el H o0 (dI 3 14) = some (.int x493) → ∀ ls : Array Slot, lv_has ls 7 [(4, .int (nI i496)), (3, .int z497), (0, .ref o0), (1, .int p0), (2, .ref p1)] → W p l e (headSpec w_c_giveFarmsH ({ frames := 5, cells := 0, slots := 0, locals := 135 })).room s m #[.ref o0, .int p0, .ref p1] below meth c H locs 0 0 (MQ below (va_Qi (fun (r : Int32) (u : Int32 × (Nat → Int32)) => match u with | (hl1, vh1) => (0 ≤ r.toInt ∧ r.toInt ≤ 60) ∧ (zct vh1 30 = hl1.toInt ∧ hl.toInt ≤ hl1.toInt)) (fun (u : Int32 × (Nat → Int32)) (t : State) => match u with | (hl1, vh1) => gH (dC, dI) kA (SHc nC nS) G t.heap ∧ gF (dC, dI) SKc G ([(3, 15), (10, 7), (50, 0), (54, 0), (56, 0), (57, 0)] : List (Nat × Nat)) s.heap t.heap ∧ el t.heap o0 (dI 3 15) = some (.int hl1) ∧ ct t.heap hd9 30 vh1) A) #[.ref o0, .int p0, .ref p1] s 0 0 A) (F0 m 81 ls []) := by
          intro n594
          induction n594 with
          | zero =>
            intro i496 hn594 hlo595 z497 V499 ⟨h498, hj504, hj505⟩ H locs hT hF hS m500 m501 m502 m503 ls hl
            obtain rfl : 60 = i496 := by omega
            refine lv_iload hx hb dX0_giveFarms_81 (lv_at hl 0 rfl) ?_
            refine lv_iload_n hx hb dX0_giveFarms_83 rfl (lv_at hl 3 rfl) ?_
            refine lv_icmp_ge (tgt := 155) hx hb dX0_giveFarms_84 (by decide) (fun c596 => ?_) (fun c596 => (by exfalso; have q9 : ((60 : Nat) : Int) < p0.toInt := ti_nle c596 rfl (nI_toInt (by omega)); omega))
            have t597 : p0.toInt ≤ ((60 : Nat) : Int) := ti_le c596 rfl (nI_toInt (by omega))
            refine lv_aload_n hx hb dX0_giveFarms_155 rfl (lv_at hl 2 rfl) ?_
            refine lv_dup hx hb dX0_giveFarms_156 rfl ?_
            refine tw_getM (v := .int hl) hx hb hts bF2_X0 hown hK hT hr_o0 shc_3 rfl 15 (by decide) (ht_at2 hts 1 rfl) (fun _ h9 => h9) m502 dX0_giveFarms_157 ?_
            refine lv_iload_n hx hb dX0_giveFarms_160 rfl (lv_at hl 1 rfl) ?_
            refine lv_iadd hx hb dX0_giveFarms_161 ?_
            refine lv_topi (fun x598 ex598 => ?_)
            have t599 : x598.toInt = hl.toInt + z497.toInt := ti_add ex598 rfl rfl (by omega) (by omega)
            refine tw_put (v := .int x598) (ty := .int) hx hb hts bF2_X0 tyX0 tyX0_ok nmX0 hown hK hT hG hS hr_o0 shc_3 rfl 15 (by decide) (ht_at2 hts 1 rfl) (fun _ h9 => h9) rfl (by decide +kernel) rfl rfl (gl_at rfl (gi_all _)) dX0_giveFarms_162 (fun H locs hT oq m600 oj hS => ?_)
            have hF := hF.put hr_o0 skc_3 oq oj (by decide)
            have m601 := m500.kept (oq _ (gne hr_hd9 hr_o0 (by decide)))
            refine lv_iload_n hx hb dX0_giveFarms_165 rfl (lv_at hl 1 rfl) ?_
            exact W.iret (v := z497) hx hb hr (fun t ht hW => ⟨⟨z497, (x598, V499), rfl, (by exact ⟨(by have q8 := ti_all z497; omega), (by have := (show x598.toInt = x598.toInt from rfl); have := hj504; exact ⟨by omega, by omega⟩)⟩), by (try dsimp only); rw [ht]; exact ⟨hT, hF, m600, m601⟩⟩, hS.F ht⟩) hS.2.2 dX0_giveFarms_166
          | succ n594 ih594 =>
            intro i496 hn594 hlo595 z497 V499 ⟨h498, hj504, hj505⟩ H locs hT hF hS m500 m501 m502 m503 ls hl
            have hlt603 : i496 < 60 := by omega
            refine lv_iload hx hb dX0_giveFarms_81 (lv_at hl 0 rfl) ?_
            refine lv_iload_n hx hb dX0_giveFarms_83 rfl (lv_at hl 3 rfl) ?_
            refine lv_icmp_ge (tgt := 155) hx hb dX0_giveFarms_84 (by decide) (fun c604 => ?_) (fun c604 => ?_)
            · have t605 : p0.toInt ≤ ((i496 : Nat) : Int) := ti_le c604 rfl (nI_toInt (by omega))
              refine lv_aload_n hx hb dX0_giveFarms_155 rfl (lv_at hl 2 rfl) ?_
              refine lv_dup hx hb dX0_giveFarms_156 rfl ?_
              refine tw_getM (v := .int hl) hx hb hts bF2_X0 hown hK hT hr_o0 shc_3 rfl 15 (by decide) (ht_at2 hts 1 rfl) (fun _ h9 => h9) m502 dX0_giveFarms_157 ?_
              refine lv_iload_n hx hb dX0_giveFarms_160 rfl (lv_at hl 1 rfl) ?_
              refine lv_iadd hx hb dX0_giveFarms_161 ?_
              refine lv_topi (fun x606 ex606 => ?_)
              have t607 : x606.toInt = hl.toInt + z497.toInt := ti_add ex606 rfl rfl (by omega) (by omega)
              refine tw_put (v := .int x606) (ty := .int) hx hb hts bF2_X0 tyX0 tyX0_ok nmX0 hown hK hT hG hS hr_o0 shc_3 rfl 15 (by decide) (ht_at2 hts 1 rfl) (fun _ h9 => h9) rfl (by decide +kernel) rfl rfl (gl_at rfl (gi_all _)) dX0_giveFarms_162 (fun H locs hT oq m608 oj hS => ?_)
              have hF := hF.put hr_o0 skc_3 oq oj (by decide)
              have m609 := m500.kept (oq _ (gne hr_hd9 hr_o0 (by decide)))
              refine lv_iload_n hx hb dX0_giveFarms_165 rfl (lv_at hl 1 rfl) ?_
              exact W.iret (v := z497) hx hb hr (fun t ht hW => ⟨⟨z497, (x606, V499), rfl, (by exact ⟨(by have q8 := ti_all z497; omega), (by have := (show x606.toInt = x606.toInt from rfl); have := hj504; exact ⟨by omega, by omega⟩)⟩), by (try dsimp only); rw [ht]; exact ⟨hT, hF, m608, m609⟩⟩, hS.F ht⟩) hS.2.2 dX0_giveFarms_166
            · have t612 : ((i496 : Nat) : Int) < p0.toInt := ti_nle c604 rfl (nI_toInt (by omega))
              refine lv_aload_n hx hb dX0_giveFarms_87 rfl (lv_at hl 2 rfl) ?_
              have hFc := gA_free hG hA hS
              refine va_calli (va_runV (As := []) (rest := []) ⟨hx, hb, hml, hown, hts⟩ (c_firstByMark l dC dI kA adK adV G H nC nS o0 hT hr_o0 (by omega) (by omega)) (cwV 0 hts (goodIn_app (goodIn_r _ [6, 7, 8, 9] rfl (by decide +kernel)) (goodIn_ca (goodIn_r _ [3, 1, 4, 5] rfl (by decide +kernel)) (bs2_in _ _))) rfl rfl rfl (by decide +kernel) ⟨(Nat.le_of_ble_eq_true rfl), (Nat.le_of_ble_eq_true rfl)⟩) ⟨fun a U g mk q => by obtain ⟨q0, q1, qK, qE⟩ := q; exact ⟨q0, q1, va_K.moved (u := U) (U := U.calling g mk a) (Vm.Alike.refl U.vm) qK, EVC.blind g mk a qE⟩, gH_rc hK hT hr_o0 shc_3 rfl, fun U hU hW => ⟨rfl, hU, va_K.moved hW.alike hK, hE.call hS hFc hU hW⟩⟩ rfl rfl hl.1 rfl (lv_room (Nat.le_of_ble_eq_true rfl)) dX0_giveFarms_88 ⟨(Nat.le_of_ble_eq_true rfl), (Nat.le_of_ble_eq_true rfl)⟩) hS (fun q _ h => hFc q h) hFc (fun r613 u t H locs ht hvm hw614 hB _ _ hS => ?_)
              obtain ⟨hT, hF1⟩ := hB
              rw [ht] at hT hF1
              have m615 := m500.kept (hF1.arr hr_hd9 skc_54 (by decide))
              have m616 := (hF1.fld hr_o0 skc_3 (k := 3) (by decide) (by decide)).trans m501
              have m617 := (hF1.fld hr_o0 skc_3 (k := 15) (by decide) (by decide)).trans m502
              have m618 := (hF1.fld hr_o0 skc_3 (k := 14) (by decide) (by decide)).trans m503
              have hF := hF.more hF1 (by decide)
              try dsimp only at hw614
              obtain ⟨h619, hf620⟩ := hw614
              refine lv_istore (lv' := [(5, .int r613), (4, .int (nI i496)), (3, .int z497), (0, .ref o0), (1, .int p0), (2, .ref p1)]) hx hb dX0_giveFarms_91 hl (by decide) rfl (fun ls hl => ?_)
              refine lv_aload_n hx hb dX0_giveFarms_93 rfl (lv_at hl 3 rfl) ?_
              refine lv_aload_n hx hb dX0_giveFarms_94 rfl (lv_at hl 5 rfl) ?_
              refine tw_getN hx hb hts bF2_X3 hown hK hT hr_p1 shc_6 rfl 1 (by decide) (hE.nw 73 rfl) (fun _ h9 => h9) dX0_giveFarms_95 (fun v9 m621 h9 => ?_)
              obtain ⟨b622, rfl, hg623⟩ := h9 _ rfl
              have hFc := gA_free hG hA hS
              refine va_calli (va_runV (As := [.ref b622]) (rest := []) ⟨hx, hb, hml, hown, hts⟩ (c_bestFreeFarmH l dC dI kA adK adV G H nC nS o0 b622 hd9 V499 hT hg623 hr_o0 m616 hr_hd9 m615 (by omega) (by omega)) (cwV 1 hts (goodIn_app (goodIn_r _ [22, 23, 24, 9] rfl (by decide +kernel)) (goodIn_ca (goodIn_r _ [10, 11, 12, 13, 14, 15, 16, 17, 18, 19, 20, 21, 9] rfl (by decide +kernel)) (bs2_in _ _))) rfl rfl rfl (by decide +kernel) ⟨(Nat.le_of_ble_eq_true rfl), (Nat.le_of_ble_eq_true rfl)⟩) ⟨fun a U g mk q => by obtain ⟨q0, q1, qK, qE⟩ := q; exact ⟨q0, q1, va_K.moved (u := U) (U := U.calling g mk a) (Vm.Alike.refl U.vm) qK, EVC.blind g mk a qE⟩, gH_rc hK hT hr_o0 shc_3 rfl, fun U hU hW => ⟨rfl, hU, va_K.moved hW.alike hK, hE.call hS hFc hU hW⟩⟩ rfl rfl hl.1 rfl (lv_room (Nat.le_of_ble_eq_true rfl)) dX0_giveFarms_98 ⟨(Nat.le_of_ble_eq_true rfl), (Nat.le_of_ble_eq_true rfl)⟩) hS (fun q _ h => hFc q h) hFc (fun r624 u t H locs ht hvm hw625 hB _ _ hS => ?_)
              obtain ⟨hT, hF1⟩ := hB
              rw [ht] at hT hF1
              have m626 := m615.kept (hF1.arr hr_hd9 skc_54 (by decide))
              have m627 := (hF1.fld hr_o0 skc_3 (k := 3) (by decide) (by decide)).trans m616
              have m628 := (hF1.fld hr_o0 skc_3 (k := 15) (by decide) (by decide)).trans m617
              have m629 := (hF1.fld hr_o0 skc_3 (k := 14) (by decide) (by decide)).trans m618
              have hF := hF.more hF1 (by decide)
              try dsimp only at hw625
              obtain ⟨h631, hf632⟩ := hw625
              refine lv_istore (lv' := [(6, .int r624), (5, .int r613), (4, .int (nI i496)), (3, .int z497), (0, .ref o0), (1, .int p0), (2, .ref p1)]) hx hb dX0_giveFarms_101 hl (by decide) rfl (fun ls hl => ?_)
              refine lv_iload hx hb dX0_giveFarms_103 (lv_at hl 1 rfl) ?_
              refine lv_iconst (v := (-1)) hx hb dX0_giveFarms_105 (by decide) ?_
              refine lv_icmp_eq (tgt := 155) hx hb dX0_giveFarms_106 (by decide) (fun c633 => ?_) (fun c633 => ?_)
              · have t634 : r613.toInt = (-1) := ti_eq c633 rfl (by decide)
                refine lv_aload_n hx hb dX0_giveFarms_155 rfl (lv_at hl 4 rfl) ?_
                refine lv_dup hx hb dX0_giveFarms_156 rfl ?_
                refine tw_getM (v := .int hl) hx hb hts bF2_X0 hown hK hT hr_o0 shc_3 rfl 15 (by decide) (ht_at2 hts 1 rfl) (fun _ h9 => h9) m628 dX0_giveFarms_157 ?_
                refine lv_iload_n hx hb dX0_giveFarms_160 rfl (lv_at hl 3 rfl) ?_
                refine lv_iadd hx hb dX0_giveFarms_161 ?_
                refine lv_topi (fun x635 ex635 => ?_)
                have t636 : x635.toInt = hl.toInt + z497.toInt := ti_add ex635 rfl rfl (by omega) (by omega)
                refine tw_put (v := .int x635) (ty := .int) hx hb hts bF2_X0 tyX0 tyX0_ok nmX0 hown hK hT hG hS hr_o0 shc_3 rfl 15 (by decide) (ht_at2 hts 1 rfl) (fun _ h9 => h9) rfl (by decide +kernel) rfl rfl (gl_at rfl (gi_all _)) dX0_giveFarms_162 (fun H locs hT oq m637 oj hS => ?_)
                have hF := hF.put hr_o0 skc_3 oq oj (by decide)
                have m638 := m626.kept (oq _ (gne hr_hd9 hr_o0 (by decide)))
                refine lv_iload_n hx hb dX0_giveFarms_165 rfl (lv_at hl 3 rfl) ?_
                exact W.iret (v := z497) hx hb hr (fun t ht hW => ⟨⟨z497, (x635, V499), rfl, (by exact ⟨(by have q8 := ti_all z497; omega), (by have := (show x635.toInt = x635.toInt from rfl); have := hj504; exact ⟨by omega, by omega⟩)⟩), by (try dsimp only); rw [ht]; exact ⟨hT, hF, m637, m638⟩⟩, hS.F ht⟩) hS.2.2 dX0_giveFarms_166
              · have t642 : r613.toInt ≠ (-1) := ti_ne c633 rfl (by decide)
                refine lv_iload hx hb dX0_giveFarms_109 (lv_at hl 0 rfl) ?_
                refine lv_iconst (v := (-1)) hx hb dX0_giveFarms_111 (by decide) ?_
                refine lv_icmp_ne (tgt := 118) hx hb dX0_giveFarms_112 (by decide) (fun c643 => ?_) (fun c643 => ?_)
                · have t644 : r624.toInt ≠ (-1) := ti_ne c643 rfl (by decide)
                  refine lv_aload_n hx hb dX0_giveFarms_118 rfl (lv_at hl 4 rfl) ?_
                  refine tw_get hx hb hts bF2_X0 hown hK hT hr_o0 shc_3 rfl 6 (by decide) (ht_at2 hts 3 rfl) (fun _ h9 => h9) dX0_giveFarms_119 (fun v9 m645 h9 => ?_)
                  obtain ⟨b646, rfl, hg647⟩ := h9 _ rfl
                  refine lv_iload hx hb dX0_giveFarms_122 (lv_at hl 1 rfl) ?_
                  refine lv_iconst (v := (-1)) hx hb dX0_giveFarms_124 (by decide) ?_
                  refine tw_iast (i := r613) (x := (-1)) hx hb hK hT hG hS hg647 shc_57 rfl (vin_t (a := r613.toInt) rfl (by omega) (by omega)) (gi_all _) dX0_giveFarms_125 (fun H locs hT oq m648 oi hS => ?_)
                  have hF := hF.ast hg647 skc_57 oq (by decide)
                  have m649 := m626.kept (oq _ (gne hr_hd9 hg647 (by decide)))
                  have m650 := (el_kept (oq _ (gne hr_o0 hg647 (by decide)))).trans m627
                  have m651 := (el_kept (oq _ (gne hr_o0 hg647 (by decide)))).trans m628
                  have m652 := (el_kept (oq _ (gne hr_o0 hg647 (by decide)))).trans m629
                  refine lv_aload_n hx hb dX0_giveFarms_126 rfl (lv_at hl 4 rfl) ?_
                  refine tw_get hx hb hts bF2_X0 hown hK hT hr_o0 shc_3 rfl 0 (by decide) (ht_at2 hts 4 rfl) (fun _ h9 => h9) dX0_giveFarms_127 (fun v9 m655 h9 => ?_)
                  obtain ⟨b656, rfl, hg657⟩ := h9 _ rfl
                  refine lv_iload hx hb dX0_giveFarms_130 (lv_at hl 1 rfl) ?_
                  refine tw_aald (i := r613) hx hb hK hT hg657 shc_51 rfl (vin_t (a := r613.toInt) rfl (by omega) (by omega)) dX0_giveFarms_132 (fun v9 m658 h9 => ?_)
                  obtain ⟨b659, rfl, hg660⟩ := (h9.1 (by have q9 := tn_of (show r613.toInt = r613.toInt from rfl) (by omega); omega))
                  refine lv_iload hx hb dX0_giveFarms_133 (lv_at hl 0 rfl) ?_
                  refine tw_putN (v := .int r624) (ty := .int) hx hb hts bF2_X7 tyX7 tyX7_ok nmX7 hown hK hT hG hS hg660 shc_10 rfl 7 (by decide) (hE.nw 61 rfl) (fun _ h9 => h9) rfl (by decide +kernel) rfl rfl (gl_at rfl (gi_of (show r624.toInt = r624.toInt from rfl) (by omega) (by omega))) dX0_giveFarms_135 (fun H locs hT oq m661 oj hS => ?_)
                  have hF := hF.put hg660 skc_10 oq oj (by decide)
                  have m662 := m649.kept (oq _ (gne hr_hd9 hg660 (by decide)))
                  have m663 := (el_kept (oq _ (gne hr_o0 hg660 (by decide)))).trans m650
                  have m664 := (el_kept (oq _ (gne hr_o0 hg660 (by decide)))).trans m651
                  have m665 := (el_kept (oq _ (gne hr_o0 hg660 (by decide)))).trans m652
                  refine lv_aload_n hx hb dX0_giveFarms_138 rfl (lv_at hl 4 rfl) ?_
                  refine tw_getM (v := .ref hd9) hx hb hts bF2_X0 hown hK hT hr_o0 shc_3 rfl 3 (by decide) (ht_at2 hts 11 rfl) (fun _ h9 => h9) m663 dX0_giveFarms_139 ?_
                  refine lv_iload hx hb dX0_giveFarms_142 (lv_at hl 0 rfl) ?_
                  refine lv_iconst (v := 1) hx hb dX0_giveFarms_144 (by decide) ?_
                  refine tw_zast (i := r624) (x := 1) hx hb hK hT hG hS hr_hd9 shc_54 rfl (vin_t (a := r624.toInt) rfl (by omega) (by omega)) (gi_z (rg_t (a := 1) (by decide) (by first | decide | omega) (by first | decide | omega)) (by decide) (by decide)) dX0_giveFarms_145 (fun H locs hT oq m671 oi hS => ?_)
                  have hF := hF.ast hr_hd9 skc_54 oq (by decide)
                  have m672 := m662.put (show el H hd9 _ = some (.int 1) from m671) oi
                  have m673 := (el_kept (oq _ (gne hr_o0 hr_hd9 (by decide)))).trans m663
                  have m674 := (el_kept (oq _ (gne hr_o0 hr_hd9 (by decide)))).trans m664
                  have m675 := (el_kept (oq _ (gne hr_o0 hr_hd9 (by decide)))).trans m665
                  obtain ⟨x682, ex682⟩ : ∃ y : Int32, y = z497 + 1 := ⟨_, rfl⟩
                  have t683 : x682.toInt = z497.toInt + 1 := ti_add ex682 rfl (by decide) (by omega) (by omega)
                  refine lv_iinc (v := x682) (lv' := [(3, .int x682), (6, .int r624), (5, .int r613), (4, .int (nI i496)), (0, .ref o0), (1, .int p0), (2, .ref p1)]) hx hb dX0_giveFarms_146 hl (k := 3) rfl (by first | (rw [ex682]; done) | (rw [ex682]; rfl)) (by decide) rfl (fun ls hl => ?_)
                  refine lv_iinc (v := nI (i496 + 1)) (lv' := [(4, .int (nI (i496 + 1))), (3, .int x682), (6, .int r624), (5, .int r613), (0, .ref o0), (1, .int p0), (2, .ref p1)]) hx hb dX0_giveFarms_149 hl (k := 3) rfl (nI_add i496 1) (by decide) rfl (fun ls hl => ?_)
                  refine lv_goto (tgt := 81) hx hb dX0_giveFarms_152 (by decide) ?_
                  exact ih594 (i496 + 1) (by omega) (by omega) x682 (cu V499 r624.toNatClampNeg (1 : Int32)) ⟨(by have q9 := (show x682.toInt = x682.toInt from rfl); (try have q8 := ti_all x682); omega), (by have := (show x682.toInt = x682.toInt from rfl); rw [zct_1 (by exact (hf632.resolve_left (fun h8 => by omega)).2.2) (by decide) 30 (by have := tn_of (show r624.toInt = r624.toInt from rfl) (by omega); omega)]; have := hj504; omega), (by have := (show x682.toInt = x682.toInt from rfl); omega)⟩ _ _ hT hF hS m672 m673 m674 m675 ls (lv_sub hl [0, 1, 4, 5, 6] rfl)
                · have t684 : r624.toInt = (-1) := ti_eq c643 rfl (by decide)
                  refine lv_goto (tgt := 155) hx hb dX0_giveFarms_115 (by decide) ?_
                  refine lv_aload_n hx hb dX0_giveFarms_155 rfl (lv_at hl 4 rfl) ?_
                  refine lv_dup hx hb dX0_giveFarms_156 rfl ?_
                  refine tw_getM (v := .int hl) hx hb hts bF2_X0 hown hK hT hr_o0 shc_3 rfl 15 (by decide) (ht_at2 hts 1 rfl) (fun _ h9 => h9) m628 dX0_giveFarms_157 ?_
                  refine lv_iload_n hx hb dX0_giveFarms_160 rfl (lv_at hl 3 rfl) ?_
                  refine lv_iadd hx hb dX0_giveFarms_161 ?_
                  refine lv_topi (fun x685 ex685 => ?_)
                  have t686 : x685.toInt = hl.toInt + z497.toInt := ti_add ex685 rfl rfl (by omega) (by omega)
                  refine tw_put (v := .int x685) (ty := .int) hx hb hts bF2_X0 tyX0 tyX0_ok nmX0 hown hK hT hG hS hr_o0 shc_3 rfl 15 (by decide) (ht_at2 hts 1 rfl) (fun _ h9 => h9) rfl (by decide +kernel) rfl rfl (gl_at rfl (gi_all _)) dX0_giveFarms_162 (fun H locs hT oq m687 oj hS => ?_)
                  have hF := hF.put hr_o0 skc_3 oq oj (by decide)
                  have m688 := m626.kept (oq _ (gne hr_hd9 hr_o0 (by decide)))
                  refine lv_iload_n hx hb dX0_giveFarms_165 rfl (lv_at hl 3 rfl) ?_
                  exact W.iret (v := z497) hx hb hr (fun t ht hW => ⟨⟨z497, (x685, V499), rfl, (by exact ⟨(by have q8 := ti_all z497; omega), (by have := (show x685.toInt = x685.toInt from rfl); have := hj504; exact ⟨by omega, by omega⟩)⟩), by (try dsimp only); rw [ht]; exact ⟨hT, hF, m687, m688⟩⟩, hS.F ht⟩) hS.2.2 dX0_giveFarms_166
        exact key594 (60 - 0) 0 (by omega) (Nat.le_refl _) 0 vh ⟨(by have q9 := (show (0 : Int32).toInt = 0 from (by decide)); (try have q8 := ti_all (0 : Int32)); omega), (by have z9 : (0 : Int32).toInt = 0 := (by decide); omega), (by have := (show (0 : Int32).toInt = 0 from (by decide)); omega)⟩ _ _ hT hF hS m2 m3 m4 m492 ls (lv_sub hl [0, 1, 2, 3, 4] rfl)
      · have t692 : ((i1 : Nat) : Int) < x493.toInt := ti_nle c494 rfl (nI_toInt (by omega))
        refine lv_aload_n hx hb dX0_giveFarms_10 rfl (lv_at hl 1 rfl) ?_
        refine lv_aload_n hx hb dX0_giveFarms_11 rfl (lv_at hl 1 rfl) ?_
        refine tw_get hx hb hts bF2_X0 hown hK hT hr_o0 shc_3 rfl 0 (by decide) (ht_at2 hts 4 rfl) (fun _ h9 => h9) dX0_giveFarms_12 (fun v9 m693 h9 => ?_)
        obtain ⟨b694, rfl, hg695⟩ := h9 _ rfl
        refine lv_iload_n hx hb dX0_giveFarms_15 rfl (lv_at hl 0 rfl) ?_
        refine tw_aald (i := (nI i1)) hx hb hK hT hg695 shc_51 rfl (vp_in_nI (by omega) (by decide)) dX0_giveFarms_16 (fun v9 m696 h9 => ?_)
        obtain ⟨b697, rfl, hg698⟩ := (h9.1 (by have q9 := tn_of (show (nI i1).toInt = ((i1 : Nat) : Int) from (nI_toInt (by omega))) (by omega); omega))
        refine lv_aload_n hx hb dX0_giveFarms_17 rfl (lv_at hl 3 rfl) ?_
        have hFc := gA_free hG hA hS
        refine va_callv (va_runV (As := [.ref b697, .ref p1]) (rest := []) ⟨hx, hb, hml, hown, hts⟩ (c_gatherFacts l dC dI kA adK adV G H nC nS o0 b697 p1 hT hg698 hr_p1 hr_o0 (by omega) (by omega)) (cwV 2 hts (goodIn_app (goodIn_r _ [58, 59, 60, 9] rfl (by decide +kernel)) (goodIn_ca (goodIn_r _ [25, 26, 27, 14, 28, 29, 30, 9, 31, 32, 33, 34, 35, 36, 37, 38, 39, 40, 41, 42, 43, 17, 44, 45, 46, 47, 48, 49, 50, 51, 52, 53, 54, 55, 56, 57] rfl (by decide +kernel)) (bs2_in _ _))) rfl rfl rfl (by decide +kernel) ⟨(Nat.le_of_ble_eq_true rfl), (Nat.le_of_ble_eq_true rfl)⟩) ⟨fun a U g mk q => by obtain ⟨q0, q1, qK, qE⟩ := q; exact ⟨q0, q1, va_K.moved (u := U) (U := U.calling g mk a) (Vm.Alike.refl U.vm) qK, EVC.blind g mk a qE⟩, gH_rc hK hT hr_o0 shc_3 rfl, fun U hU hW => ⟨rfl, hU, va_K.moved hW.alike hK, hE.call hS hFc hU hW⟩⟩ rfl rfl hl.1 rfl (lv_room (Nat.le_of_ble_eq_true rfl)) dX0_giveFarms_18 ⟨(Nat.le_of_ble_eq_true rfl), (Nat.le_of_ble_eq_true rfl)⟩) hS (fun q _ h => hFc q h) hFc (fun u t H locs ht hvm hw700 hB _ _ hS => ?_)
        obtain ⟨hT, hF1⟩ := hB
        rw [ht] at hT hF1
        have m701 := m2.kept (hF1.arr hr_hd9 skc_54 (by decide))
        have m702 := (hF1.fld hr_o0 skc_3 (k := 3) (by decide) (by decide)).trans m3
        have m703 := (hF1.fld hr_o0 skc_3 (k := 15) (by decide) (by decide)).trans m4
        have m705 := (hF1.fld hr_o0 skc_3 (k := 0) (by decide) (by decide)).trans m693
        have m706 := (el_kept (hF1.arr hg695 skc_51 (by decide))).trans m696
        have hF := hF.more hF1 (by decide)
        try dsimp only at hw700
        refine lv_aload_n hx hb dX0_giveFarms_21 rfl (lv_at hl 1 rfl) ?_
        refine tw_getM (v := .ref b694) hx hb hts bF2_X0 hown hK hT hr_o0 shc_3 rfl 0 (by decide) (ht_at2 hts 4 rfl) (fun _ h9 => h9) m705 dX0_giveFarms_22 ?_
        refine lv_iload_n hx hb dX0_giveFarms_25 rfl (lv_at hl 0 rfl) ?_
        refine tw_aald (i := (nI i1)) hx hb hK hT hg695 shc_51 rfl (vp_in_nI (by omega) (by decide)) dX0_giveFarms_26 (fun v9 m707 h9 => ?_)
        obtain ⟨b708, rfl, hg709⟩ := (h9.1 (by have q9 := tn_of (show (nI i1).toInt = ((i1 : Nat) : Int) from (nI_toInt (by omega))) (by omega); omega))
        obtain rfl : b697 = b708 := (el_sameR m707 m706 (show (nI i1).toInt = (nI i1).toInt from by have q9 := (show (nI i1).toInt = ((i1 : Nat) : Int) from (nI_toInt (by omega))); have q8 := (show (nI i1).toInt = ((i1 : Nat) : Int) from (nI_toInt (by omega))); omega)).symm
        refine tw_getN hx hb hts bF2_X7 hown hK hT hg698 shc_10 rfl 7 (by decide) (hE.nw 61 rfl) (fun _ h9 => h9) dX0_giveFarms_27 (fun v9 m710 h9 => ?_)
        obtain ⟨x711, rfl, gx711, kx711⟩ := h9 _ rfl
        refine lv_iconst (v := (-1)) hx hb dX0_giveFarms_30 (by decide) ?_
        refine lv_icmp_ne (tgt := 47) hx hb dX0_giveFarms_31 (by decide) (fun c712 => ?_) (fun c712 => ?_)
        · have t713 : x711.toInt ≠ (-1) := ti_ne c712 rfl (by decide)
          refine lv_iconst (v := 0) hx hb dX0_giveFarms_47 (by decide) ?_
          refine lv_istore (lv' := [(4, .int 0), (3, .int (nI i1)), (0, .ref o0), (1, .int p0), (2, .ref p1)]) hx hb dX0_giveFarms_48 hl (by decide) rfl (fun ls hl => ?_)
          refine lv_aload_n hx hb dX0_giveFarms_50 rfl (lv_at hl 2 rfl) ?_
          refine tw_get hx hb hts bF2_X0 hown hK hT hr_o0 shc_3 rfl 6 (by decide) (ht_at2 hts 3 rfl) (fun _ h9 => h9) dX0_giveFarms_51 (fun v9 m714 h9 => ?_)
          obtain ⟨b715, rfl, hg716⟩ := h9 _ rfl
          refine lv_iload_n hx hb dX0_giveFarms_54 rfl (lv_at hl 1 rfl) ?_
          refine lv_iload hx hb dX0_giveFarms_55 (lv_at hl 0 rfl) ?_
          refine lv_if_eq (tgt := 68) hx hb dX0_giveFarms_57 (by decide) (fun c717 => ?_) (fun c717 => absurd c717 (by decide))
          refine lv_iconst (v := (-1)) hx hb dX0_giveFarms_68 (by decide) ?_
          refine tw_iast (i := (nI i1)) (x := (-1)) hx hb hK hT hG hS hg716 shc_57 rfl (vp_in_nI (by omega) (by decide)) (gi_all _) dX0_giveFarms_69 (fun H locs hT oq m718 oi hS => ?_)
          have hF := hF.ast hg716 skc_57 oq (by decide)
          have m719 := m701.kept (oq _ (gne hr_hd9 hg716 (by decide)))
          have m720 := (el_kept (oq _ (gne hr_o0 hg716 (by decide)))).trans m702
          have m721 := (el_kept (oq _ (gne hr_o0 hg716 (by decide)))).trans m703
          refine lv_iinc (v := nI (i1 + 1)) (lv' := [(3, .int (nI (i1 + 1))), (4, .int 0), (0, .ref o0), (1, .int p0), (2, .ref p1)]) hx hb dX0_giveFarms_70 hl (k := 1) rfl (nI_add i1 1) (by decide) rfl (fun ls hl => ?_)
          refine lv_goto (tgt := 2) hx hb dX0_giveFarms_73 (by decide) ?_
          exact ih290 (i1 + 1) (by omega) (by omega) _ _ hT hF hS m719 m720 m721 ls (lv_sub hl [0, 2, 3, 4] rfl)
        · have t727 : x711.toInt = (-1) := ti_eq c712 rfl (by decide)
          refine lv_aload_n hx hb dX0_giveFarms_34 rfl (lv_at hl 1 rfl) ?_
          refine lv_bipush (v := 6) hx hb dX0_giveFarms_35 (by decide) ?_
          have hFc := gA_free hG hA hS
          refine va_calli (va_runV (As := [.int 6]) (rest := []) ⟨hx, hb, hml, hown, hts⟩ (c_isRuled l dC dI kA adK adV G H nC nS o0 6 hT hr_o0 (by omega) (by omega)) (cwV 1 hts (goodIn_app (goodIn_r _ [84, 85, 86, 9] rfl (by decide +kernel)) (goodIn_ca (goodIn_r _ [61, 62, 26, 63, 64, 65, 66, 67, 68, 69, 70, 71, 72, 73, 17, 74, 75, 76, 77, 78, 79, 80, 81, 82, 83] rfl (by decide +kernel)) (bs2_in _ _))) rfl rfl rfl (by decide +kernel) ⟨(Nat.le_of_ble_eq_true rfl), (Nat.le_of_ble_eq_true rfl)⟩) ⟨fun a U g mk q => by obtain ⟨q0, q1, qK, qE⟩ := q; exact ⟨q0, q1, va_K.moved (u := U) (U := U.calling g mk a) (Vm.Alike.refl U.vm) qK, EVC.blind g mk a qE⟩, gH_rc hK hT hr_o0 shc_3 rfl, fun U hU hW => ⟨rfl, hU, va_K.moved hW.alike hK, hE.call hS hFc hU hW⟩⟩ rfl rfl hl.1 rfl (lv_room (Nat.le_of_ble_eq_true rfl)) dX0_giveFarms_37 ⟨(Nat.le_of_ble_eq_true rfl), (Nat.le_of_ble_eq_true rfl)⟩) hS (fun q _ h => hFc q h) hFc (fun r728 u t H locs ht hvm hw729 hB _ _ hS => ?_)
          obtain ⟨hT, hF1⟩ := hB
          rw [ht] at hT hF1
          have m730 := m701.kept (hF1.arr hr_hd9 skc_54 (by decide))
          have m731 := (hF1.fld hr_o0 skc_3 (k := 3) (by decide) (by decide)).trans m702
          have m732 := (hF1.fld hr_o0 skc_3 (k := 15) (by decide) (by decide)).trans m703
          have hF := hF.more hF1 (by decide)
          try dsimp only at hw729
          have h737 := hw729
          refine lv_if_ne (tgt := 47) hx hb dX0_giveFarms_40 (by decide) (fun c738 => ?_) (fun c738 => ?_)
          · have t739 : r728.toInt ≠ 0 := ti_ne c738 rfl (by decide)
            refine lv_iconst (v := 0) hx hb dX0_giveFarms_47 (by decide) ?_
            refine lv_istore (lv' := [(4, .int 0), (3, .int (nI i1)), (0, .ref o0), (1, .int p0), (2, .ref p1)]) hx hb dX0_giveFarms_48 hl (by decide) rfl (fun ls hl => ?_)
            refine lv_aload_n hx hb dX0_giveFarms_50 rfl (lv_at hl 2 rfl) ?_
            refine tw_get hx hb hts bF2_X0 hown hK hT hr_o0 shc_3 rfl 6 (by decide) (ht_at2 hts 3 rfl) (fun _ h9 => h9) dX0_giveFarms_51 (fun v9 m740 h9 => ?_)
            obtain ⟨b741, rfl, hg742⟩ := h9 _ rfl
            refine lv_iload_n hx hb dX0_giveFarms_54 rfl (lv_at hl 1 rfl) ?_
            refine lv_iload hx hb dX0_giveFarms_55 (lv_at hl 0 rfl) ?_
            refine lv_if_eq (tgt := 68) hx hb dX0_giveFarms_57 (by decide) (fun c743 => ?_) (fun c743 => absurd c743 (by decide))
            refine lv_iconst (v := (-1)) hx hb dX0_giveFarms_68 (by decide) ?_
            refine tw_iast (i := (nI i1)) (x := (-1)) hx hb hK hT hG hS hg742 shc_57 rfl (vp_in_nI (by omega) (by decide)) (gi_all _) dX0_giveFarms_69 (fun H locs hT oq m744 oi hS => ?_)
            have hF := hF.ast hg742 skc_57 oq (by decide)
            have m745 := m730.kept (oq _ (gne hr_hd9 hg742 (by decide)))
            have m746 := (el_kept (oq _ (gne hr_o0 hg742 (by decide)))).trans m731
            have m747 := (el_kept (oq _ (gne hr_o0 hg742 (by decide)))).trans m732
            refine lv_iinc (v := nI (i1 + 1)) (lv' := [(3, .int (nI (i1 + 1))), (4, .int 0), (0, .ref o0), (1, .int p0), (2, .ref p1)]) hx hb dX0_giveFarms_70 hl (k := 1) rfl (nI_add i1 1) (by decide) rfl (fun ls hl => ?_)
            refine lv_goto (tgt := 2) hx hb dX0_giveFarms_73 (by decide) ?_
            exact ih290 (i1 + 1) (by omega) (by omega) _ _ hT hF hS m745 m746 m747 ls (lv_sub hl [0, 2, 3, 4] rfl)
          · have t753 : r728.toInt = 0 := ti_eq c738 rfl (by decide)
            refine lv_iconst (v := 1) hx hb dX0_giveFarms_43 (by decide) ?_
            refine lv_goto (tgt := 48) hx hb dX0_giveFarms_44 (by decide) ?_
            refine lv_istore (lv' := [(4, .int 1), (3, .int (nI i1)), (0, .ref o0), (1, .int p0), (2, .ref p1)]) hx hb dX0_giveFarms_48 hl (by decide) rfl (fun ls hl => ?_)
            refine lv_aload_n hx hb dX0_giveFarms_50 rfl (lv_at hl 2 rfl) ?_
            refine tw_get hx hb hts bF2_X0 hown hK hT hr_o0 shc_3 rfl 6 (by decide) (ht_at2 hts 3 rfl) (fun _ h9 => h9) dX0_giveFarms_51 (fun v9 m754 h9 => ?_)
            obtain ⟨b755, rfl, hg756⟩ := h9 _ rfl
            refine lv_iload_n hx hb dX0_giveFarms_54 rfl (lv_at hl 1 rfl) ?_
            refine lv_iload hx hb dX0_giveFarms_55 (lv_at hl 0 rfl) ?_
            refine lv_if_eq (tgt := 68) hx hb dX0_giveFarms_57 (by decide) (fun c757 => absurd c757 (by decide)) (fun c757 => ?_)
            refine lv_aload_n hx hb dX0_giveFarms_60 rfl (lv_at hl 2 rfl) ?_
            refine lv_iconst (v := 4) hx hb dX0_giveFarms_61 (by decide) ?_
            have hFc := gA_free hG hA hS
            refine va_calli (va_runV (As := [.int 4]) (rest := [.int (nI i1), .ref b755]) ⟨hx, hb, hml, hown, hts⟩ (c_ruled l dC dI kA adK adV G H nC nS o0 4 hT hr_o0 (by omega) (by omega)) (cwV 1 hts (goodIn_app (goodIn_r _ [93, 94, 95, 9] rfl (by decide +kernel)) (goodIn_ca (goodIn_r _ [87, 62, 26, 88, 64, 65, 66, 67, 68, 69, 70, 71, 72, 73, 17, 74, 75, 76, 77, 78, 79, 80, 89, 90, 91, 92] rfl (by decide +kernel)) (bs2_in _ _))) rfl rfl rfl (by decide +kernel) ⟨(Nat.le_of_ble_eq_true rfl), (Nat.le_of_ble_eq_true rfl)⟩) ⟨fun a U g mk q => by obtain ⟨q0, q1, qK, qE⟩ := q; exact ⟨q0, q1, va_K.moved (u := U) (U := U.calling g mk a) (Vm.Alike.refl U.vm) qK, EVC.blind g mk a qE⟩, gH_rc hK hT hr_o0 shc_3 rfl, fun U hU hW => ⟨rfl, hU, va_K.moved hW.alike hK, hE.call hS hFc hU hW⟩⟩ rfl rfl hl.1 rfl (lv_room (Nat.le_of_ble_eq_true rfl)) dX0_giveFarms_62 ⟨(Nat.le_of_ble_eq_true rfl), (Nat.le_of_ble_eq_true rfl)⟩) hS (fun q _ h => hFc q h) hFc (fun r758 u t H locs ht hvm hw759 hB _ _ hS => ?_)
            obtain ⟨hT, hF1⟩ := hB
            rw [ht] at hT hF1
            have m760 := m730.kept (hF1.arr hr_hd9 skc_54 (by decide))
            have m761 := (hF1.fld hr_o0 skc_3 (k := 3) (by decide) (by decide)).trans m731
            have m762 := (hF1.fld hr_o0 skc_3 (k := 15) (by decide) (by decide)).trans m732
            have hF := hF.more hF1 (by decide)
            try dsimp only at hw759
            refine lv_goto (tgt := 69) hx hb dX0_giveFarms_65 (by decide) ?_
            refine tw_iast (i := (nI i1)) (x := r758) hx hb hK hT hG hS hg756 shc_57 rfl (vp_in_nI (by omega) (by decide)) (gi_all _) dX0_giveFarms_69 (fun H locs hT oq m768 oi hS => ?_)
            have hF := hF.ast hg756 skc_57 oq (by decide)
            have m769 := m760.kept (oq _ (gne hr_hd9 hg756 (by decide)))
            have m770 := (el_kept (oq _ (gne hr_o0 hg756 (by decide)))).trans m761
            have m771 := (el_kept (oq _ (gne hr_o0 hg756 (by decide)))).trans m762
            refine lv_iinc (v := nI (i1 + 1)) (lv' := [(3, .int (nI (i1 + 1))), (4, .int 1), (0, .ref o0), (1, .int p0), (2, .ref p1)]) hx hb dX0_giveFarms_70 hl (k := 1) rfl (nI_add i1 1) (by decide) rfl (fun ls hl => ?_)
            refine lv_goto (tgt := 2) hx hb dX0_giveFarms_73 (by decide) ?_
            exact ih290 (i1 + 1) (by omega) (by omega) _ _ hT hF hS m769 m770 m771 ls (lv_sub hl [0, 2, 3, 4] rfl)
  exact key290 (60 - 0) 0 (by omega) (Nat.le_refl _) _ _ hT hF hS hc_vh hm_hd9 hm_hl ls (lv_sub hl [0, 1, 2, 3] rfl)
def w_c_reapZ : List Cond := .code yX0_reap cX0_reap 5 (some .int) :: (HAppend.hAppend (α := List Cond) (β := List Cond) (γ := List Cond) [.code yX3_dayNow cX3_dayNow 1 (some .int), .fieldLink RX3 32 "SeaLand$Lake" "hour" "I", .methodLink RX0 195 yX3_dayNow, .instanceMethod yX3_dayNow, .selects RX3 yX3_dayNow yX3_dayNow, .initialized RX3, .methodLink RX0 166 Lib.Math.min.name, .static Lib.Math.min.name, .initialized "java/lang/Math", .code Lib.Math.min.name Lib.Math.min.code 2 (some .int), .fieldLink RX0 28 "SeaLand$Board" "harvested" "[Z", .fieldLink RX0 75 "SeaLand$Board" "settled" "I", .code yJ7_fill_53178 cJ7_fill_53178 4 none, .methodLink RX0 55 yJ7_fill_53178, .static yJ7_fill_53178, .initialized RJ7, .fieldLink RX0 11 "SeaLand$Board" "settlers" "[LSeaLand$Settler;"] bs2)
set_option maxHeartbeats 4000000 in
set_option maxRecDepth 100000 in
theorem c_reapZ (l : Launch) (dC : Nat → ClassId) (dI : Nat → Nat → Nat) (kA : Nat → ClassId) (adK adV : Nat → Nat) (G : gT) (H0 : Heap) (nC nS : Int) (o0 : Nat) (p0 : Nat) (sA : Nat) (vA vD vC vU vI vW : Nat → Int32) (hT : gH (dC, dI) kA (SHc nC nS) G H0) (hr_p0 : G p0 = some 6) (hr_o0 : G o0 = some 3) (hm_sA : el H0 o0 (dI 3 0) = some (.ref sA)) (hr_sA : G sA = some 51) (hFS : ∀ i : Nat, ((i : Nat) : Int) < nS → ∀ a : Nat, el H0 sA i = some (.ref a) → zSf dI H0 a (vA i) (vD i) (vC i) (vU i) (vI i) (vW i)) (hgC : 0 ≤ nC ∧ nC ≤ 40) (hgS : 0 ≤ nS ∧ nS ≤ 60) : Met l yX0_reap w_c_reapZ ({ frames := 1, cells := 0, slots := 0, locals := 40 }) (va_Pc [.ref o0, .ref p0] (fun U => U.heap = H0 ∧ va_K (dC, dI) vwCl (tyl kA) U ∧ EVC adK adV (gA G H0.size) U U.heap)) (va_Qi (fun (r : Int32) (u : Unit) => (-1 ≤ r.toInt ∧ r.toInt ≤ 0)) (fun (_ : Unit) (t : State) => gH (dC, dI) kA (SHc nC nS) G t.heap ∧ gF (dC, dI) SKc G ([(10, 10), (32, 0), (55, 0)] : List (Nat × Nat)) H0 t.heap) (gA G H0.size)) 0 0 (gA G H0.size) := by
  refine Met.ofW (cc := cX0_reap) (maxL := 5) (ret := (some .int)) (by decide) rfl ?_
  intro p e s m args below meth c s₁ B hml hv
  obtain ⟨rfl, hH0, hK, hE⟩ := hv
  have hx := B.exec
  have hb := B.bytes
  have hr := B.returns
  have hts := atoms_spec (ws := w_c_reapZ) B.pre
  have hown : s.vm.findClass RX0 = some m.cls := findClass_of_methodNamed B.named
  have hlocks := B.notSynchronized
  subst hH0
  generalize hAe : gA G s.heap.size = A at hE ⊢
  have hA : ∀ q : Nat, s.heap.size ≤ q → A q := fun q h => by rw [← hAe]; exact Or.inr h
  have hG := gA_of hAe
  have hS : va_S A s.heap s.heap [] := va_S.rf
  have hF : gF (dC, dI) SKc G ([(10, 10), (32, 0), (55, 0)] : List (Nat × Nat)) s.heap s.heap := gF.rf
  have hl := lv_entry ([.ref o0, .ref p0]) (n := 5) (Nat.le_of_ble_eq_true rfl)
  rw [lg_entry_eq]
  generalize (lg_sl ([.ref o0, .ref p0]) ++ List.replicate (5 - (lg_sl ([.ref o0, .ref p0])).length) Slot.unset).toArray = ls at hl ⊢
  have hl : lv_has ls 5 [(0, .ref o0), (1, .ref p0)] := hl
  refine lv_aload_n hx hb dX0_reap_0 rfl (lv_at hl 1 rfl) ?_
  have hFc := gA_free hG hA hS
  refine va_calli (va_runV (As := []) (rest := []) ⟨hx, hb, hml, hown, hts⟩ (c_dayNow l dC dI kA adK adV G s.heap nC nS p0 hT hr_p0 (by omega) (by omega)) (cwV 0 hts (goodIn_app (goodIn_r _ [3, 4, 5, 6] rfl (by decide +kernel)) (goodIn_ca (goodIn_r _ [1, 2] rfl (by decide +kernel)) (bs2_in _ _))) rfl rfl rfl (by decide +kernel) ⟨(Nat.le_of_ble_eq_true rfl), (Nat.le_of_ble_eq_true rfl)⟩) ⟨fun a U g mk q => by obtain ⟨q0, q1, qK, qE⟩ := q; exact ⟨q0, q1, va_K.moved (u := U) (U := U.calling g mk a) (Vm.Alike.refl U.vm) qK, EVC.blind g mk a qE⟩, gH_rc hK hT hr_p0 shc_6 rfl, fun U hU hW => ⟨rfl, hU, va_K.moved hW.alike hK, hE.call hS hFc hU hW⟩⟩ rfl rfl hl.1 rfl (lv_room (Nat.le_of_ble_eq_true rfl)) dX0_reap_1 ⟨(Nat.le_of_ble_eq_true rfl), (Nat.le_of_ble_eq_true rfl)⟩) hS (fun q _ h => hFc q h) hFc (fun r1 u t H locs ht hvm hw2 hB _ _ hS => ?_)
  obtain ⟨hT, hF1⟩ := hB
  rw [ht] at hT hF1
  have m3 := (hF1.fld hr_o0 skc_3 (k := 0) (by decide) (by decide)).trans hm_sA
  have hF := hF.more hF1 (by decide)
  try dsimp only at hw2
  have h4 := hw2
  refine lv_sipush (v := 360) hx hb dX0_reap_4 (by decide) ?_
  refine lv_idiv hx hb dX0_reap_7 (by decide) ?_
  refine lv_topi (fun x5 ex5 => ?_)
  have t6 : x5.toInt = r1.toInt / 360 := ti_div ex5 rfl (by decide) (by omega) (by omega)
  refine lv_iconst (v := 4) hx hb dX0_reap_8 (by decide) ?_
  refine va_mmin hx hb (hml.trans hl.1.symm) hown (ht_at2 hts 6 rfl) (ht_at2 hts 7 rfl) (ht_at2 hts 8 rfl) (ht_at2 hts 9 rfl) (Nat.le_of_ble_eq_true rfl) (Nat.le_of_ble_eq_true rfl) (Nat.le_of_ble_eq_true rfl) (Nat.le_of_ble_eq_true rfl) dX0_reap_9 ?_
  refine lv_topi (fun x7 ex7 => ?_)
  have t8 : x7.toInt ≤ x5.toInt ∧ x7.toInt ≤ 4 ∧ (x7.toInt = x5.toInt ∨ x7.toInt = 4) := mn_f ex7 rfl (by decide)
  refine lv_istore_n (lv' := [(2, .int x7), (0, .ref o0), (1, .ref p0)]) hx hb dX0_reap_12 rfl hl (by decide) rfl (fun ls hl => ?_)
  refine lv_aload_n hx hb dX0_reap_13 rfl (lv_at hl 1 rfl) ?_
  refine tw_get hx hb hts bF2_X0 hown hK hT hr_o0 shc_3 rfl 4 (by decide) (ht_at2 hts 10 rfl) (fun _ h9 => h9) dX0_reap_14 (fun v9 m9 h9 => ?_)
  obtain ⟨b10, rfl, hg11⟩ := h9 _ rfl
  refine lv_iload_n hx hb dX0_reap_17 rfl (lv_at hl 0 rfl) ?_
  refine tw_zald (i := x7) hx hb hK hT hg11 shc_55 rfl (vin_t (a := x7.toInt) rfl (by omega) (by omega)) dX0_reap_18 (fun v9 m12 h9 => ?_)
  obtain ⟨x13, rfl, gx13, kx13⟩ := h9
  refine lv_if_eq (tgt := 24) hx hb dX0_reap_19 (by decide) (fun c14 => ?_) (fun c14 => ?_)
  · have t15 : x13.toInt = 0 := ti_eq c14 rfl (by decide)
    refine lv_aload_n hx hb dX0_reap_24 rfl (lv_at hl 1 rfl) ?_
    refine tw_getM (v := .ref b10) hx hb hts bF2_X0 hown hK hT hr_o0 shc_3 rfl 4 (by decide) (ht_at2 hts 10 rfl) (fun _ h9 => h9) m9 dX0_reap_25 ?_
    refine lv_iload_n hx hb dX0_reap_28 rfl (lv_at hl 0 rfl) ?_
    refine lv_iconst (v := 1) hx hb dX0_reap_29 (by decide) ?_
    refine tw_zast (i := x7) (x := 1) hx hb hK hT hG hS hg11 shc_55 rfl (vin_t (a := x7.toInt) rfl (by omega) (by omega)) (gi_z (rg_t (a := 1) (by decide) (by first | decide | omega) (by first | decide | omega)) (by decide) (by decide)) dX0_reap_30 (fun H locs hT oq m16 oi hS => ?_)
    have hF := hF.ast hg11 skc_55 oq (by decide)
    have m17 := (el_kept (oq _ (gne hr_o0 hg11 (by decide)))).trans m3
    have m18 := (el_kept (oq _ (gne hr_o0 hg11 (by decide)))).trans m9
    refine lv_iconst (v := 0) hx hb dX0_reap_31 (by decide) ?_
    refine lv_istore_n (lv' := [(3, .int 0), (2, .int x7), (0, .ref o0), (1, .ref p0)]) hx hb dX0_reap_32 rfl hl (by decide) rfl (fun ls hl => ?_)
    refine lv_iconst (v := 0) hx hb dX0_reap_33 (by decide) ?_
    refine lv_istore (lv' := [(4, .int 0), (3, .int 0), (2, .int x7), (0, .ref o0), (1, .ref p0)]) hx hb dX0_reap_34 hl (by decide) rfl (fun ls hl => ?_)
    have jn134 : ∀ (z127 : Int32), ∀ (z131 : Int32), ((0 ≤ z127.toInt ∧ z127.toInt ≤ 60) ∧ (0 ≤ z131.toInt ∧ z131.toInt ≤ 60)) → ∀ (H : Heap) (locs : List Loc), gH (dC, dI) kA (SHc nC nS) G H → gF (dC, dI) SKc G ([(10, 10), (32, 0), (55, 0)] : List (Nat × Nat)) s.heap H → va_S A s.heap H locs → el H o0 (dI 3 0) = some (.ref sA) → el H o0 (dI 3 4) = some (.ref b10) → el H o0 (dI 3 14) = some (.int z131) → ∀ ls : Array Slot, lv_has ls 5 [(4, .int z127), (3, .int 0), (2, .int x7), (0, .ref o0), (1, .ref p0)] → W p l e (headSpec w_c_reapZ ({ frames := 1, cells := 0, slots := 0, locals := 40 })).room s m #[.ref o0, .ref p0] below meth c H locs 0 0 (MQ below (va_Qi (fun (r : Int32) (u : Unit) => (-1 ≤ r.toInt ∧ r.toInt ≤ 0)) (fun (_ : Unit) (t : State) => gH (dC, dI) kA (SHc nC nS) G t.heap ∧ gF (dC, dI) SKc G ([(10, 10), (32, 0), (55, 0)] : List (Nat × Nat)) s.heap t.heap) A) #[.ref o0, .ref p0] s 0 0 A) (F0 m 106 ls []) := by
      intro z127 z131 ⟨h128, h132⟩ H locs hT hF hS m129 m130 m133 ls hl
      refine lv_aload_n hx hb dX0_reap_106 rfl (lv_at hl 4 rfl) ?_
      refine tw_getN hx hb hts bF2_X3 hown hK hT hr_p0 shc_6 rfl 1 (by decide) (hE.nw 73 rfl) (fun _ h9 => h9) dX0_reap_107 (fun v9 m135 h9 => ?_)
      obtain ⟨b136, rfl, hg137⟩ := h9 _ rfl
      refine tw_getN hx hb hts bF2_X2 hown hK hT hg137 shc_5 rfl 7 (by decide) (hE.nw 76 rfl) (fun _ h9 => h9) dX0_reap_110 (fun v9 m138 h9 => ?_)
      obtain ⟨b139, rfl, hg140⟩ := h9 _ rfl
      refine lv_iconst (v := 0) hx hb dX0_reap_113 (by decide) ?_
      have hFc := gA_free hG hA hS
      refine va_callv (va_runS (As := [.ref b139, .int 0]) (rest := []) ⟨hx, hb, hml, hown, hts⟩ (c_fill_wet l dC dI kA adK adV G H nC nS b139 0 hT hg140 (by omega) (by omega)) (va_cwS 2 hts (goodIn_app (goodIn_r _ [14, 15, 16] rfl (by decide +kernel)) (goodIn_ca (goodIn_r _ [13] rfl (by decide +kernel)) (bs2_in _ _))) rfl rfl rfl (by decide +kernel) ⟨(Nat.le_of_ble_eq_true rfl), (Nat.le_of_ble_eq_true rfl)⟩) ⟨fun a U g mk q => by obtain ⟨q0, q1, qK, qE⟩ := q; exact ⟨q0, q1, va_K.moved (u := U) (U := U.calling g mk a) (Vm.Alike.refl U.vm) qK, EVC.blind g mk a qE⟩, fun U hU hW => ⟨rfl, hU, va_K.moved hW.alike hK, hE.call hS hFc hU hW⟩⟩ rfl rfl hl.1 rfl (lv_room (Nat.le_of_ble_eq_true rfl)) dX0_reap_114 ⟨(Nat.le_of_ble_eq_true rfl), (Nat.le_of_ble_eq_true rfl)⟩) hS (fun q _ h => hFc q h) hFc (fun u t H locs ht hvm hw142 hB _ _ hS => ?_)
      obtain ⟨hT, hF1⟩ := hB
      rw [ht] at hT hF1
      have hF := hF.more hF1 (by decide)
      try dsimp only at hw142
      refine lv_iload_n hx hb dX0_reap_117 rfl (lv_at hl 1 rfl) ?_
      exact W.iret (v := 0) hx hb hr (fun t ht hW => ⟨⟨0, (), rfl, (by exact (rg_t (a := 0) (by decide) (by first | decide | omega) (by first | decide | omega))), by (try dsimp only); rw [ht]; exact ⟨hT, hF⟩⟩, hS.F ht⟩) hS.2.2 dX0_reap_118
    have key148 : ∀ (n148 i19 : Nat), i19 + n148 = 60 → 0 ≤ i19 → ∀ (H : Heap) (locs : List Loc), gH (dC, dI) kA (SHc nC nS) G H → gF (dC, dI) SKc G ([(10, 10), (32, 0), (55, 0)] : List (Nat × Nat)) s.heap H → va_S A s.heap H locs → el H o0 (dI 3 0) = some (.ref sA) → el H o0 (dI 3 4) = some (.ref b10) → ∀ ls : Array Slot, lv_has ls 5 [(4, .int (nI i19)), (3, .int 0), (2, .int x7), (0, .ref o0), (1, .ref p0)] → W p l e (headSpec w_c_reapZ ({ frames := 1, cells := 0, slots := 0, locals := 40 })).room s m #[.ref o0, .ref p0] below meth c H locs 0 0 (MQ below (va_Qi (fun (r : Int32) (u : Unit) => (-1 ≤ r.toInt ∧ r.toInt ≤ 0)) (fun (_ : Unit) (t : State) => gH (dC, dI) kA (SHc nC nS) G t.heap ∧ gF (dC, dI) SKc G ([(10, 10), (32, 0), (55, 0)] : List (Nat × Nat)) s.heap t.heap) A) #[.ref o0, .ref p0] s 0 0 A) (F0 m 36 ls []) := by
      intro n148
      induction n148 with
      | zero =>
        intro i19 hn148 hlo149  H locs hT hF hS m20 m21 ls hl
        obtain rfl : 60 = i19 := by omega
        refine lv_iload hx hb dX0_reap_36 (lv_at hl 0 rfl) ?_
        refine lv_aload_n hx hb dX0_reap_38 rfl (lv_at hl 3 rfl) ?_
        refine tw_get hx hb hts bF2_X0 hown hK hT hr_o0 shc_3 rfl 14 (by decide) (ht_at2 hts 11 rfl) (fun _ h9 => h9) dX0_reap_39 (fun v9 m150 h9 => ?_)
        obtain ⟨x151, rfl, gx151, kx151⟩ := h9 _ rfl
        refine lv_icmp_ge (tgt := 106) hx hb dX0_reap_42 (by decide) (fun c152 => ?_) (fun c152 => (by exfalso; have q9 : ((60 : Nat) : Int) < x151.toInt := ti_nle c152 rfl (nI_toInt (by omega)); omega))
        have t153 : x151.toInt ≤ ((60 : Nat) : Int) := ti_le c152 rfl (nI_toInt (by omega))
        exact jn134 (nI 60) x151 ⟨(rg_t (a := ((60 : Nat) : Int)) (nI_toInt (by omega)) (by omega) (by omega)), (by have q8 := ti_all x151; omega)⟩ _ _ hT hF hS m20 m21 m150 ls (lv_sub hl [0, 1, 2, 3, 4] rfl)
      | succ n148 ih148 =>
        intro i19 hn148 hlo149  H locs hT hF hS m20 m21 ls hl
        have hlt153 : i19 < 60 := by omega
        refine lv_iload hx hb dX0_reap_36 (lv_at hl 0 rfl) ?_
        refine lv_aload_n hx hb dX0_reap_38 rfl (lv_at hl 3 rfl) ?_
        refine tw_get hx hb hts bF2_X0 hown hK hT hr_o0 shc_3 rfl 14 (by decide) (ht_at2 hts 11 rfl) (fun _ h9 => h9) dX0_reap_39 (fun v9 m154 h9 => ?_)
        obtain ⟨x155, rfl, gx155, kx155⟩ := h9 _ rfl
        refine lv_icmp_ge (tgt := 106) hx hb dX0_reap_42 (by decide) (fun c156 => ?_) (fun c156 => ?_)
        · have t157 : x155.toInt ≤ ((i19 : Nat) : Int) := ti_le c156 rfl (nI_toInt (by omega))
          exact jn134 (nI i19) x155 ⟨(rg_t (a := ((i19 : Nat) : Int)) (nI_toInt (by omega)) (by omega) (by omega)), (by have q8 := ti_all x155; omega)⟩ _ _ hT hF hS m20 m21 m154 ls (lv_sub hl [0, 1, 2, 3, 4] rfl)
        · have t158 : ((i19 : Nat) : Int) < x155.toInt := ti_nle c156 rfl (nI_toInt (by omega))
          refine lv_aload_n hx hb dX0_reap_45 rfl (lv_at hl 3 rfl) ?_
          refine tw_getM (v := .ref sA) hx hb hts bF2_X0 hown hK hT hr_o0 shc_3 rfl 0 (by decide) (ht_at2 hts 16 rfl) (fun _ h9 => h9) m20 dX0_reap_46 ?_
          refine lv_iload hx hb dX0_reap_49 (lv_at hl 0 rfl) ?_
          refine tw_aald (i := (nI i19)) hx hb hK hT hr_sA shc_51 rfl (vp_in_nI (by omega) (by decide)) dX0_reap_51 (fun v9 m159 h9 => ?_)
          obtain ⟨b160, rfl, hg161⟩ := (h9.1 (by have q9 := tn_of (show (nI i19).toInt = ((i19 : Nat) : Int) from (nI_toInt (by omega))) (by omega); omega))
          have fs162 := hFS (nI i19).toNatClampNeg (by have := tn_of (show (nI i19).toInt = ((i19 : Nat) : Int) from (nI_toInt (by omega))) (by omega); omega) b160 ((el_kept (hF.arr hr_sA skc_51 (by decide))).symm.trans m159)
          rw [tn_nI (by omega)] at fs162
          have m163 := (hF.fld hg161 skc_10 (k := 7) (by decide) (by decide)).trans fs162.1
          have m166 := (hF.fld hg161 skc_10 (k := 0) (by decide) (by decide)).trans fs162.2.2.2.1
          obtain ⟨x167, ex167⟩ : ∃ y : Int32, y = vA i19 := ⟨_, rfl⟩
          rw [← ex167] at m166
          have m168 := (hF.fld hg161 skc_10 (k := 1) (by decide) (by decide)).trans fs162.2.2.2.2.1
          obtain ⟨x169, ex169⟩ : ∃ y : Int32, y = vD i19 := ⟨_, rfl⟩
          rw [← ex169] at m168
          have m170 := (hF.fld hg161 skc_10 (k := 6) (by decide) (by decide)).trans fs162.2.2.2.2.2.1
          obtain ⟨x171, ex171⟩ : ∃ y : Int32, y = vC i19 := ⟨_, rfl⟩
          rw [← ex171] at m170
          have m172 := (hF.fld hg161 skc_10 (k := 2) (by decide) (by decide)).trans fs162.2.2.2.2.2.2.1
          obtain ⟨x173, ex173⟩ : ∃ y : Int32, y = vU i19 := ⟨_, rfl⟩
          rw [← ex173] at m172
          have m174 := (hF.fld hg161 skc_10 (k := 3) (by decide) (by decide)).trans fs162.2.2.2.2.2.2.2.1
          obtain ⟨x175, ex175⟩ : ∃ y : Int32, y = vI i19 := ⟨_, rfl⟩
          rw [← ex175] at m174
          have h176 : 0 ≤ x175.toInt ∧ x175.toInt ≤ 1 := by obtain ⟨v9, e9, h9⟩ := gH_fld hT hg161 shc_10 (k := 3) (by decide); rw [m174] at e9; cases e9; obtain ⟨y9, z9, a9, b9⟩ := h9 _ rfl; cases z9; exact ⟨a9, b9⟩
          have m177 := (hF.fld hg161 skc_10 (k := 4) (by decide) (by decide)).trans fs162.2.2.2.2.2.2.2.2
          obtain ⟨x178, ex178⟩ : ∃ y : Int32, y = vW i19 := ⟨_, rfl⟩
          rw [← ex178] at m177
          have h179 : 0 ≤ x178.toInt ∧ x178.toInt ≤ 1 := by obtain ⟨v9, e9, h9⟩ := gH_fld hT hg161 shc_10 (k := 4) (by decide); rw [m177] at e9; cases e9; obtain ⟨y9, z9, a9, b9⟩ := h9 _ rfl; cases z9; exact ⟨a9, b9⟩
          refine tw_getNM (v := .int (-1)) hx hb hts bF2_X7 hown hK hT hg161 shc_10 rfl 7 (by decide) (hE.nw 61 rfl) (fun _ h9 => h9) m163 dX0_reap_52 ?_
          refine lv_iconst (v := (-1)) hx hb dX0_reap_55 (by decide) ?_
          refine lv_icmp_eq (tgt := 89) hx hb dX0_reap_56 (by decide) (fun c180 => ?_) (fun c180 => absurd c180 (by decide))
          refine lv_aload_n hx hb dX0_reap_89 rfl (lv_at hl 3 rfl) ?_
          refine tw_getM (v := .ref sA) hx hb hts bF2_X0 hown hK hT hr_o0 shc_3 rfl 0 (by decide) (ht_at2 hts 16 rfl) (fun _ h9 => h9) m20 dX0_reap_90 ?_
          refine lv_iload hx hb dX0_reap_93 (lv_at hl 0 rfl) ?_
          refine tw_aald (i := (nI i19)) hx hb hK hT hr_sA shc_51 rfl (vp_in_nI (by omega) (by decide)) dX0_reap_95 (fun v9 m181 h9 => ?_)
          obtain ⟨b182, rfl, hg183⟩ := (h9.1 (by have q9 := tn_of (show (nI i19).toInt = ((i19 : Nat) : Int) from (nI_toInt (by omega))) (by omega); omega))
          obtain rfl : b160 = b182 := (el_sameR m181 m159 (show (nI i19).toInt = (nI i19).toInt from by have q9 := (show (nI i19).toInt = ((i19 : Nat) : Int) from (nI_toInt (by omega))); have q8 := (show (nI i19).toInt = ((i19 : Nat) : Int) from (nI_toInt (by omega))); omega)).symm
          refine lv_iconst (v := 0) hx hb dX0_reap_96 (by decide) ?_
          refine tw_putN (v := .int 0) (ty := .boolean) hx hb hts bF2_X7 tyX7 tyX7_ok nmX7 hown hK hT hG hS hg161 shc_10 rfl 10 (by decide) (hE.nw 75 rfl) (fun _ h9 => h9) rfl (by decide +kernel) rfl rfl (gl_at rfl (gi_of (show (0 : Int32).toInt = 0 from (by decide)) (by first | decide | omega) (by first | decide | omega))) dX0_reap_97 (fun H locs hT oq m184 oj hS => ?_)
          have hF := hF.put hg161 skc_10 oq oj (by decide)
          have m185 := (el_kept (oq _ (gne hr_o0 hg161 (by decide)))).trans m20
          have m186 := (el_kept (oq _ (gne hr_o0 hg161 (by decide)))).trans m21
          refine lv_iinc (v := nI (i19 + 1)) (lv' := [(4, .int (nI (i19 + 1))), (3, .int 0), (2, .int x7), (0, .ref o0), (1, .ref p0)]) hx hb dX0_reap_100 hl (k := 0) rfl (nI_add i19 1) (by decide) rfl (fun ls hl => ?_)
          refine lv_goto (tgt := 36) hx hb dX0_reap_103 (by decide) ?_
          exact ih148 (i19 + 1) (by omega) (by omega) _ _ hT hF hS m185 m186 ls (lv_sub hl [0, 1, 2, 3, 4] rfl)
    exact key148 (60 - 0) 0 (by omega) (Nat.le_refl _) _ _ hT hF hS m17 m18 ls (lv_sub hl [0, 1, 2, 3, 4] rfl)
  · have t198 : x13.toInt ≠ 0 := ti_ne c14 rfl (by decide)
    refine lv_iconst (v := (-1)) hx hb dX0_reap_22 (by decide) ?_
    exact W.iret (v := (-1)) hx hb hr (fun t ht hW => ⟨⟨(-1), (), rfl, (by exact (rg_t (a := (-1)) (by decide) (by first | decide | omega) (by first | decide | omega))), by (try dsimp only); rw [ht]; exact ⟨hT, hF⟩⟩, hS.F ht⟩) hS.2.2 dX0_reap_23
def w_c_harvestZ : List Cond := .code yX11_harvest cX11_harvest 1 (some .int) :: (HAppend.hAppend (α := List Cond) (β := List Cond) (γ := List Cond) [.fieldLink RX11 30 "SeaLand" "board" "LSeaLand$Board;", .fieldLink RX11 16 "SeaLand" "lake" "LSeaLand$Lake;", .code yX0_reap cX0_reap 5 (some .int), .code yX3_dayNow cX3_dayNow 1 (some .int), .fieldLink RX3 32 "SeaLand$Lake" "hour" "I", .methodLink RX0 195 yX3_dayNow, .instanceMethod yX3_dayNow, .selects RX3 yX3_dayNow yX3_dayNow, .initialized RX3, .methodLink RX0 166 Lib.Math.min.name, .static Lib.Math.min.name, .initialized "java/lang/Math", .code Lib.Math.min.name Lib.Math.min.code 2 (some .int), .fieldLink RX0 28 "SeaLand$Board" "harvested" "[Z", .fieldLink RX0 75 "SeaLand$Board" "settled" "I", .code yJ7_fill_53178 cJ7_fill_53178 4 none, .methodLink RX0 55 yJ7_fill_53178, .static yJ7_fill_53178, .initialized RJ7, .fieldLink RX0 11 "SeaLand$Board" "settlers" "[LSeaLand$Settler;", .methodLink RX11 386 yX0_reap, .instanceMethod yX0_reap, .selects RX0 yX0_reap yX0_reap, .initialized RX0] bs2)
set_option maxHeartbeats 4000000 in
set_option maxRecDepth 100000 in
theorem c_harvestZ (l : Launch) (dC : Nat → ClassId) (dI : Nat → Nat → Nat) (kA : Nat → ClassId) (adK adV : Nat → Nat) (G : gT) (H0 : Heap) (nC nS : Int) (o0 : Nat) (bd : Nat) (sA : Nat) (vA vD vC vU vI vW : Nat → Int32) (hT : gH (dC, dI) kA (SHc nC nS) G H0) (hr_o0 : G o0 = some 14) (hm_bd : el H0 o0 (dI 14 3) = some (.ref bd)) (hr_bd : G bd = some 3) (hm_sA : el H0 bd (dI 3 0) = some (.ref sA)) (hr_sA : G sA = some 51) (hFS : ∀ i : Nat, ((i : Nat) : Int) < nS → ∀ a : Nat, el H0 sA i = some (.ref a) → zSf dI H0 a (vA i) (vD i) (vC i) (vU i) (vI i) (vW i)) (hgC : 0 ≤ nC ∧ nC ≤ 40) (hgS : 0 ≤ nS ∧ nS ≤ 60) : Met l yX11_harvest w_c_harvestZ ({ frames := 2, cells := 0, slots := 0, locals := 64 }) (va_Pc [.ref o0] (fun U => U.heap = H0 ∧ va_K (dC, dI) vwCl (tyl kA) U ∧ EVC adK adV (gA G H0.size) U U.heap)) (va_Qi (fun (r : Int32) (u : Unit) => (-1 ≤ r.toInt ∧ r.toInt ≤ 0)) (fun (_ : Unit) (t : State) => gH (dC, dI) kA (SHc nC nS) G t.heap ∧ gF (dC, dI) SKc G ([(10, 10), (32, 0), (55, 0)] : List (Nat × Nat)) H0 t.heap) (gA G H0.size)) 0 0 (gA G H0.size) := by
  refine Met.ofW (cc := cX11_harvest) (maxL := 1) (ret := (some .int)) (by decide) rfl ?_
  intro p e s m args below meth c s₁ B hml hv
  obtain ⟨rfl, hH0, hK, hE⟩ := hv
  have hx := B.exec
  have hb := B.bytes
  have hr := B.returns
  have hts := atoms_spec (ws := w_c_harvestZ) B.pre
  have hown : s.vm.findClass RX11 = some m.cls := findClass_of_methodNamed B.named
  have hlocks := B.notSynchronized
  subst hH0
  generalize hAe : gA G s.heap.size = A at hE ⊢
  have hA : ∀ q : Nat, s.heap.size ≤ q → A q := fun q h => by rw [← hAe]; exact Or.inr h
  have hG := gA_of hAe
  have hS : va_S A s.heap s.heap [] := va_S.rf
  have hF : gF (dC, dI) SKc G ([(10, 10), (32, 0), (55, 0)] : List (Nat × Nat)) s.heap s.heap := gF.rf
  have hl := lv_entry ([.ref o0]) (n := 1) (Nat.le_of_ble_eq_true rfl)
  rw [lg_entry_eq]
  generalize (lg_sl ([.ref o0]) ++ List.replicate (1 - (lg_sl ([.ref o0])).length) Slot.unset).toArray = ls at hl ⊢
  have hl : lv_has ls 1 [(0, .ref o0)] := hl
  refine lv_aload_n hx hb dX11_harvest_0 rfl (lv_at hl 0 rfl) ?_
  refine tw_getM (v := .ref bd) hx hb hts bF2_X11 hown hK hT hr_o0 shc_14 rfl 3 (by decide) (ht_at2 hts 0 rfl) (fun _ h9 => h9) hm_bd dX11_harvest_1 ?_
  refine lv_aload_n hx hb dX11_harvest_4 rfl (lv_at hl 0 rfl) ?_
  refine tw_get hx hb hts bF2_X11 hown hK hT hr_o0 shc_14 rfl 1 (by decide) (ht_at2 hts 1 rfl) (fun _ h9 => h9) dX11_harvest_5 (fun v9 m1 h9 => ?_)
  obtain ⟨b2, rfl, hg3⟩ := h9 _ rfl
  have hFc := gA_free hG hA hS
  refine va_calli (va_runV (As := [.ref b2]) (rest := []) ⟨hx, hb, hml, hown, hts⟩ (c_reapZ l dC dI kA adK adV G s.heap nC nS bd b2 sA vA vD vC vU vI vW hT hg3 hr_bd hm_sA hr_sA hFS (by omega) (by omega)) (cwV 1 hts (goodIn_app (goodIn_r _ [21, 22, 23, 24] rfl (by decide +kernel)) (goodIn_ca (goodIn_r _ [3, 4, 5, 6, 7, 8, 9, 10, 11, 12, 13, 14, 15, 16, 17, 18, 19, 20] rfl (by decide +kernel)) (bs2_in _ _))) rfl rfl rfl (by decide +kernel) ⟨(Nat.le_of_ble_eq_true rfl), (Nat.le_of_ble_eq_true rfl)⟩) ⟨fun a U g mk q => by obtain ⟨q0, q1, qK, qE⟩ := q; exact ⟨q0, q1, va_K.moved (u := U) (U := U.calling g mk a) (Vm.Alike.refl U.vm) qK, EVC.blind g mk a qE⟩, gH_rc hK hT hr_bd shc_3 rfl, fun U hU hW => ⟨rfl, hU, va_K.moved hW.alike hK, hE.call hS hFc hU hW⟩⟩ rfl rfl hl.1 rfl (lv_room (Nat.le_of_ble_eq_true rfl)) dX11_harvest_8 ⟨(Nat.le_of_ble_eq_true rfl), (Nat.le_of_ble_eq_true rfl)⟩) hS (fun q _ h => hFc q h) hFc (fun r4 u t H locs ht hvm hw5 hB _ _ hS => ?_)
  obtain ⟨hT, hF1⟩ := hB
  rw [ht] at hT hF1
  have hF := hF.more hF1 (by decide)
  try dsimp only at hw5
  have h9 := hw5
  exact W.iret (v := r4) hx hb hr (fun t ht hW => ⟨⟨r4, (), rfl, (by exact (by have q8 := ti_all r4; omega)), by (try dsimp only); rw [ht]; exact ⟨hT, hF⟩⟩, hS.F ht⟩) hS.2.2 dX11_harvest_11
def w_c_hearZ : List Cond := .code yX0_hear cX0_hear 5 (some .int) :: (HAppend.hAppend (α := List Cond) (β := List Cond) (γ := List Cond) [] bs2)
set_option maxHeartbeats 4000000 in
set_option maxRecDepth 100000 in
theorem c_hearZ (l : Launch) (dC : Nat → ClassId) (dI : Nat → Nat → Nat) (kA : Nat → ClassId) (adK adV : Nat → Nat) (G : gT) (H0 : Heap) (nC nS : Int) (o0 : Nat) (p0 : Nat) (p1 : Int32) (p2 : Nat) (fmv : Int32)  (hT : gH (dC, dI) kA (SHc nC nS) G H0) (hr_p0 : G p0 = some 10) (hr_p2 : G p2 = some 6) (hr_o0 : G o0 = some 3) (hm_fmv : el H0 p0 (dI 10 7) = some (.int fmv)) (hq0 : 0 ≤ p1.toInt ∧ p1.toInt ≤ 1) (hq1 : -1 ≤ fmv.toInt ∧ fmv.toInt ≤ -1) (hgC : 0 ≤ nC ∧ nC ≤ 40) (hgS : 0 ≤ nS ∧ nS ≤ 60) : Met l yX0_hear w_c_hearZ ({ frames := 0, cells := 0, slots := 0, locals := 0 }) (va_Pc [.ref o0, .ref p0, .int p1, .ref p2] (fun U => U.heap = H0 ∧ va_K (dC, dI) vwCl (tyl kA) U ∧ EVC adK adV (gA G H0.size) U U.heap)) (va_Qi (fun (r : Int32) (u : Unit) => (-1 ≤ r.toInt ∧ r.toInt ≤ -1) ∧ (r = -1)) (fun (_ : Unit) (t : State) => gH (dC, dI) kA (SHc nC nS) G t.heap ∧ gF (dC, dI) SKc G ([] : List (Nat × Nat)) H0 t.heap) (gA G H0.size)) 0 0 (gA G H0.size) := by
  refine Met.ofW (cc := cX0_hear) (maxL := 5) (ret := (some .int)) (by decide) rfl ?_
  intro p e s m args below meth c s₁ B hml hv
  obtain ⟨rfl, hH0, hK, hE⟩ := hv
  have hx := B.exec
  have hb := B.bytes
  have hr := B.returns
  have hts := atoms_spec (ws := w_c_hearZ) B.pre
  have hown : s.vm.findClass RX0 = some m.cls := findClass_of_methodNamed B.named
  have hlocks := B.notSynchronized
  subst hH0
  generalize hAe : gA G s.heap.size = A at hE ⊢
  have hA : ∀ q : Nat, s.heap.size ≤ q → A q := fun q h => by rw [← hAe]; exact Or.inr h
  have hG := gA_of hAe
  have hS : va_S A s.heap s.heap [] := va_S.rf
  have hF : gF (dC, dI) SKc G ([] : List (Nat × Nat)) s.heap s.heap := gF.rf
  have hl := lv_entry ([.ref o0, .ref p0, .int p1, .ref p2]) (n := 5) (Nat.le_of_ble_eq_true rfl)
  rw [lg_entry_eq]
  generalize (lg_sl ([.ref o0, .ref p0, .int p1, .ref p2]) ++ List.replicate (5 - (lg_sl ([.ref o0, .ref p0, .int p1, .ref p2])).length) Slot.unset).toArray = ls at hl ⊢
  have hl : lv_has ls 5 [(0, .ref o0), (1, .ref p0), (2, .int p1), (3, .ref p2)] := hl
  refine lv_aload_n hx hb dX0_hear_0 rfl (lv_at hl 1 rfl) ?_
  refine tw_getNM (v := .int fmv) hx hb hts bF2_X7 hown hK hT hr_p0 shc_10 rfl 7 (by decide) (hE.nw 61 rfl) (fun _ h9 => h9) hm_fmv dX0_hear_1 ?_
  refine lv_iconst (v := (-1)) hx hb dX0_hear_4 (by decide) ?_
  refine lv_icmp_eq (tgt := 15) hx hb dX0_hear_5 (by decide) (fun c1 => ?_) (fun c1 => (by exfalso; have q9 : fmv.toInt ≠ (-1) := ti_ne c1 rfl (by decide); omega))
  have t2 : fmv.toInt = (-1) := ti_eq c1 rfl (by decide)
  refine lv_iconst (v := (-1)) hx hb dX0_hear_15 (by decide) ?_
  exact W.iret (v := (-1)) hx hb hr (fun t ht hW => ⟨⟨(-1), (), rfl, (by exact ⟨(rg_t (a := (-1)) (by decide) (by first | decide | omega) (by first | decide | omega)), rfl⟩), by (try dsimp only); rw [ht]; exact ⟨hT, hF⟩⟩, hS.F ht⟩) hS.2.2 dX0_hear_16
def w_c_settlerOfZ : List Cond := .code yX11_settlerOf cX11_settlerOf 2 (some (.object "SeaLand$Settler")) :: (HAppend.hAppend (α := List Cond) (β := List Cond) (γ := List Cond) [.fieldLink RX11 30 "SeaLand" "board" "LSeaLand$Board;", .code yX11_within cX11_within 3 (some .boolean), .methodLink RX11 58 yX11_within, .static yX11_within, .initialized RX11, .classLink RX11 557 "java/lang/IndexOutOfBoundsException", .initialized "java/lang/IndexOutOfBoundsException"] bs2)
set_option maxHeartbeats 4000000 in
set_option maxRecDepth 100000 in
theorem c_settlerOfZ (l : Launch) (hlt : l.stackTraces = false) (dC : Nat → ClassId) (dI : Nat → Nat → Nat) (kA : Nat → ClassId) (adK adV : Nat → Nat) (G : gT) (H0 : Heap) (nC nS : Int) (o0 : Nat) (p0 : Int32) (bd : Nat) (sA : Nat)  (hT : gH (dC, dI) kA (SHc nC nS) G H0) (hr_o0 : G o0 = some 14) (hm_bd : el H0 o0 (dI 14 3) = some (.ref bd)) (hr_bd : G bd = some 3) (hm_sA : el H0 bd (dI 3 0) = some (.ref sA)) (hr_sA : G sA = some 51) (hgC : 0 ≤ nC ∧ nC ≤ 40) (hgS : 0 ≤ nS ∧ nS ≤ 60) : vx_Met l yX11_settlerOf w_c_settlerOfZ ({ frames := 6, cells := 1, slots := 6, locals := 100 }) (va_Pc [.ref o0, .int p0] (fun U => U.heap = H0 ∧ va_K (dC, dI) vwCl (tyl kA) U ∧ EVC adK adV (gA G H0.size) U U.heap)) (va_Qr (fun (u : Unit) => True) (fun (_ : Unit) (ra : Nat) (t : State) => G ra = some 10 ∧ (0 ≤ p0.toInt ∧ p0.toInt < nS) ∧ el H0 sA p0.toNatClampNeg = some (.ref ra) ∧ gH (dC, dI) kA (SHc nC nS) G t.heap ∧ gF (dC, dI) SKc G ([] : List (Nat × Nat)) H0 t.heap) (gA G H0.size)) (vx_X (fun _ : Unit => True) (fun E _ t => (E = "java/lang/IndexOutOfBoundsException") ∧ gH (dC, dI) kA (SHc nC nS) G t.heap ∧ gF (dC, dI) SKc G ([] : List (Nat × Nat)) H0 t.heap) (gA G H0.size)) 1 6 (gA G H0.size) := by
  refine vx_ofW (cc := cX11_settlerOf) (maxL := 2) (ret := (some (.object "SeaLand$Settler"))) (by decide +kernel) rfl ?_
  intro p e s m args below meth c s₁ B hml hnt hv
  obtain ⟨rfl, hH0, hK, hE⟩ := hv
  have hx := B.exec
  have hb := B.bytes
  have hr := B.returns
  have hts := atoms_spec (ws := w_c_settlerOfZ) B.pre
  have hown : s.vm.findClass RX11 = some m.cls := findClass_of_methodNamed B.named
  have hlocks := B.notSynchronized
  subst hH0
  generalize hAe : gA G s.heap.size = A at hE ⊢
  have hA : ∀ q : Nat, s.heap.size ≤ q → A q := fun q h => by rw [← hAe]; exact Or.inr h
  have hG := gA_of hAe
  have hS : va_S A s.heap s.heap [] := va_S.rf
  have hF : gF (dC, dI) SKc G ([] : List (Nat × Nat)) s.heap s.heap := gF.rf
  have hl := lv_entry ([.ref o0, .int p0]) (n := 2) (Nat.le_of_ble_eq_true rfl)
  rw [lg_entry_eq]
  generalize (lg_sl ([.ref o0, .int p0]) ++ List.replicate (2 - (lg_sl ([.ref o0, .int p0])).length) Slot.unset).toArray = ls at hl ⊢
  have hl : lv_has ls 2 [(0, .ref o0), (1, .int p0)] := hl
  refine lv_iload_n hx hb dX11_settlerOf_0 rfl (lv_at hl 1 rfl) ?_
  refine lv_iconst (v := 0) hx hb dX11_settlerOf_1 (by decide) ?_
  refine lv_aload_n hx hb dX11_settlerOf_2 rfl (lv_at hl 0 rfl) ?_
  refine tw_getM (v := .ref bd) hx hb hts bF2_X11 hown hK hT hr_o0 shc_14 rfl 3 (by decide) (ht_at2 hts 0 rfl) (fun _ h9 => h9) hm_bd dX11_settlerOf_3 ?_
  refine tw_getN hx hb hts bF2_X0 hown hK hT hr_bd shc_3 rfl 14 (by decide) (hE.nw 30 rfl) (fun _ h9 => h9) dX11_settlerOf_6 (fun v9 m1 h9 => ?_)
  obtain ⟨x2, rfl, gx2, kx2⟩ := h9 _ rfl
  refine lv_iconst (v := 1) hx hb dX11_settlerOf_9 (by decide) ?_
  refine lv_isub hx hb dX11_settlerOf_10 ?_
  refine lv_topi (fun x3 ex3 => ?_)
  have t4 : x3.toInt = x2.toInt - 1 := ti_sub ex3 rfl (by decide) (by omega) (by omega)
  have hFc := gA_free hG hA hS
  refine va_calli (va_runS (As := [.int p0, .int 0, .int x3]) (rest := []) ⟨hx, hb, hml, hown, hts⟩ (c_within l dC dI kA adK adV G s.heap nC nS p0 0 x3 hT (by omega) (by omega)) (va_cwS 3 hts (goodIn_app (goodIn_r _ [3, 4, 5] rfl (by decide +kernel)) (goodIn_ca (goodIn_r _ [2] rfl (by decide +kernel)) (bs2_in _ _))) rfl rfl rfl (by decide +kernel) ⟨(Nat.le_of_ble_eq_true rfl), (Nat.le_of_ble_eq_true rfl)⟩) ⟨fun a U g mk q => by obtain ⟨q0, q1, qK, qE⟩ := q; exact ⟨q0, q1, va_K.moved (u := U) (U := U.calling g mk a) (Vm.Alike.refl U.vm) qK, EVC.blind g mk a qE⟩, fun U hU hW => ⟨rfl, hU, va_K.moved hW.alike hK, hE.call hS hFc hU hW⟩⟩ rfl rfl hl.1 rfl (lv_room (Nat.le_of_ble_eq_true rfl)) dX11_settlerOf_11 ⟨(Nat.le_of_ble_eq_true rfl), (Nat.le_of_ble_eq_true rfl)⟩) hS (fun q _ h => hFc q h) hFc (fun r5 u t H locs ht hvm hw6 hB _ _ hS => ?_)
  obtain ⟨hT, hF1⟩ := hB
  rw [ht] at hT hF1
  have m7 := (hF1.fld hr_o0 skc_14 (k := 3) (by decide) (by decide)).trans hm_bd
  have m8 := (hF1.fld hr_bd skc_3 (k := 0) (by decide) (by decide)).trans hm_sA
  have hF := hF.more hF1 (by decide)
  try dsimp only at hw6
  obtain ⟨h10, hi11, hi12⟩ := hw6
  refine lv_if_ne (tgt := 28) hx hb dX11_settlerOf_14 (by decide) (fun c13 => ?_) (fun c13 => ?_)
  · have t14 : r5.toInt ≠ 0 := ti_ne c13 rfl (by decide)
    have t15 : (0 : Int32).toInt = 0 := by decide
    have t16 : (0 : Int32).toInt ≤ p0.toInt ∧ p0.toInt ≤ x3.toInt := hi11 ((bit_of ⟨by omega, by omega⟩).resolve_left c13)
    refine lv_aload_n hx hb dX11_settlerOf_28 rfl (lv_at hl 0 rfl) ?_
    refine tw_getM (v := .ref bd) hx hb hts bF2_X11 hown hK hT hr_o0 shc_14 rfl 3 (by decide) (ht_at2 hts 0 rfl) (fun _ h9 => h9) m7 dX11_settlerOf_29 ?_
    refine tw_getNM (v := .ref sA) hx hb hts bF2_X0 hown hK hT hr_bd shc_3 rfl 0 (by decide) (hE.nw 58 rfl) (fun _ h9 => h9) m8 dX11_settlerOf_32 ?_
    refine lv_iload_n hx hb dX11_settlerOf_35 rfl (lv_at hl 1 rfl) ?_
    refine tw_aald (i := p0) hx hb hK hT hr_sA shc_51 rfl (vin_t (a := p0.toInt) rfl (by omega) (by omega)) dX11_settlerOf_36 (fun v9 m17 h9 => ?_)
    obtain ⟨b18, rfl, hg19⟩ := (h9.1 (by have q9 := tn_of (show p0.toInt = p0.toInt from rfl) (by omega); omega))
    refine W.widen (k := 1) (n := 6) (by decide) (by decide) ?_
    exact vx_ret (W.aret (v := .ref b18) hx hb hr (Or.inl ⟨_, rfl⟩) (Or.inr ⟨_, rfl⟩) (fun t ht hW => ⟨⟨(), b18, rfl, (by exact trivial), by (try dsimp only); rw [ht]; exact ⟨hg19, ⟨by omega, by omega⟩, (el_kept (hF.arr hr_sA skc_51 (by decide))).symm.trans m17, hT, hF⟩⟩, hS.F ht⟩) hS.2.2 dX11_settlerOf_37)
  · have t20 : r5.toInt = 0 := ti_eq c13 rfl (by decide)
    have t21 : (0 : Int32).toInt = 0 := by decide
    have t22 : p0.toInt < (0 : Int32).toInt ∨ x3.toInt < p0.toInt := hi12 c13
    obtain ⟨sa23, hsa23⟩ := hE.str 19 rfl
    exact vx_throwSW (names := ["java/lang/RuntimeException", "java/lang/Exception"]) hx hb hlt hown (by decide +kernel) (by decide +kernel) (ht_at2 hts 5 rfl) (ht_at2 hts 6 rfl) hsa23 (bX2_at0 hts hE) bX_ok0_557 hE.1.1.2.2.1 hE.1.1.2.2.2 hS (by rw [hml]; exact hl.1) dX11_settlerOf_17 dX11_settlerOf_20 dX11_settlerOf_21 dX11_settlerOf_24 dX11_settlerOf_27 (fun x h => (hnt x h).elim) (by decide) (Nat.le_of_ble_eq_true rfl) (Nat.le_of_ble_eq_true rfl) (Nat.le_of_ble_eq_true rfl) hlocks (fun t hW hz hq => ⟨(), trivial, ⟨rfl, hT.ext hq, hF.ext hT hq⟩, Nat.le_trans hS.1 hz, fun q h1 h2 => (hq q (Nat.lt_of_lt_of_le h1 hS.1)).trans (hS.2.1 q h1 h2)⟩) hS.2.2 (by decide) (by decide)
def w_c_voteZ : List Cond := .code yX11_vote cX11_vote 4 (some .int) :: (HAppend.hAppend (α := List Cond) (β := List Cond) (γ := List Cond) [.code yX11_settlerOf cX11_settlerOf 2 (some (.object "SeaLand$Settler")), .fieldLink RX11 30 "SeaLand" "board" "LSeaLand$Board;", .code yX11_within cX11_within 3 (some .boolean), .methodLink RX11 58 yX11_within, .static yX11_within, .initialized RX11, .classLink RX11 557 "java/lang/IndexOutOfBoundsException", .initialized "java/lang/IndexOutOfBoundsException", .methodLink RX11 292 yX11_settlerOf, .instanceMethod yX11_settlerOf, .selects RX11 yX11_settlerOf yX11_settlerOf, .code yX11_needVote cX11_needVote 1 none, .classLink RX11 69 "java/lang/IllegalStateException", .initialized "java/lang/IllegalStateException", .methodLink RX11 296 yX11_needVote, .instanceMethod yX11_needVote, .selects RX11 yX11_needVote yX11_needVote, .fieldLink RX11 16 "SeaLand" "lake" "LSeaLand$Lake;", .code yX0_hear cX0_hear 5 (some .int), .methodLink RX11 299 yX0_hear, .instanceMethod yX0_hear, .selects RX0 yX0_hear yX0_hear, .initialized RX0] bs2)
set_option maxHeartbeats 4000000 in
set_option maxRecDepth 100000 in
theorem c_voteZ (l : Launch) (hlt : l.stackTraces = false) (dC : Nat → ClassId) (dI : Nat → Nat → Nat) (kA : Nat → ClassId) (adK adV : Nat → Nat) (G : gT) (H0 : Heap) (nC nS : Int) (o0 : Nat) (p0 : Int32) (p1 : Int32) (bd : Nat) (sA : Nat) (vA vD vC vU vI vW : Nat → Int32) (hT : gH (dC, dI) kA (SHc nC nS) G H0) (hr_o0 : G o0 = some 14) (hm_bd : el H0 o0 (dI 14 3) = some (.ref bd)) (hr_bd : G bd = some 3) (hm_sA : el H0 bd (dI 3 0) = some (.ref sA)) (hr_sA : G sA = some 51) (hq0 : 0 ≤ p1.toInt ∧ p1.toInt ≤ 1) (hFS : ∀ i : Nat, ((i : Nat) : Int) < nS → ∀ a : Nat, el H0 sA i = some (.ref a) → zSf dI H0 a (vA i) (vD i) (vC i) (vU i) (vI i) (vW i)) (hgC : 0 ≤ nC ∧ nC ≤ 40) (hgS : 0 ≤ nS ∧ nS ≤ 60) : vx_Met l yX11_vote w_c_voteZ ({ frames := 7, cells := 2, slots := 12, locals := 121 }) (va_Pc [.ref o0, .int p0, .int p1] (fun U => U.heap = H0 ∧ va_K (dC, dI) vwCl (tyl kA) U ∧ EVC adK adV (gA G H0.size) U U.heap)) (va_Qi (fun (r : Int32) (u : Unit) => (-1 ≤ r.toInt ∧ r.toInt ≤ -1)) (fun (_ : Unit) (t : State) => gH (dC, dI) kA (SHc nC nS) G t.heap ∧ gF (dC, dI) SKc G ([] : List (Nat × Nat)) H0 t.heap) (gA G H0.size)) (vx_X (fun _ : Unit => True) (fun E _ t => (E = "java/lang/IllegalStateException" ∨ E = "java/lang/IndexOutOfBoundsException") ∧ gH (dC, dI) kA (SHc nC nS) G t.heap ∧ gF (dC, dI) SKc G ([] : List (Nat × Nat)) H0 t.heap) (gA G H0.size)) 2 12 (gA G H0.size) := by
  refine vx_ofW (cc := cX11_vote) (maxL := 4) (ret := (some .int)) (by decide) rfl ?_
  intro p e s m args below meth c s₁ B hml hnt hv
  obtain ⟨rfl, hH0, hK, hE⟩ := hv
  have hx := B.exec
  have hb := B.bytes
  have hr := B.returns
  have hts := atoms_spec (ws := w_c_voteZ) B.pre
  have hown : s.vm.findClass RX11 = some m.cls := findClass_of_methodNamed B.named
  have hlocks := B.notSynchronized
  subst hH0
  generalize hAe : gA G s.heap.size = A at hE ⊢
  have hA : ∀ q : Nat, s.heap.size ≤ q → A q := fun q h => by rw [← hAe]; exact Or.inr h
  have hG := gA_of hAe
  have hS : va_S A s.heap s.heap [] := va_S.rf
  have hF : gF (dC, dI) SKc G ([] : List (Nat × Nat)) s.heap s.heap := gF.rf
  have hl := lv_entry ([.ref o0, .int p0, .int p1]) (n := 4) (Nat.le_of_ble_eq_true rfl)
  rw [lg_entry_eq]
  generalize (lg_sl ([.ref o0, .int p0, .int p1]) ++ List.replicate (4 - (lg_sl ([.ref o0, .int p0, .int p1])).length) Slot.unset).toArray = ls at hl ⊢
  have hl : lv_has ls 4 [(0, .ref o0), (1, .int p0), (2, .int p1)] := hl
  refine lv_aload_n hx hb dX11_vote_0 rfl (lv_at hl 0 rfl) ?_
  refine lv_iload_n hx hb dX11_vote_1 rfl (lv_at hl 1 rfl) ?_
  have hFc := gA_free hG hA hS
  refine vx_callr (vx_runV (As := [.int p0]) (rest := []) ⟨hx, hb, hml, hown, hts⟩ (c_settlerOfZ l hlt dC dI kA adK adV G s.heap nC nS o0 p0 bd sA hT hr_o0 hm_bd hr_bd hm_sA hr_sA (by omega) (by omega)) (cwV 1 hts (goodIn_app (goodIn_r _ [9, 10, 11, 6] rfl (by decide +kernel)) (goodIn_ca (goodIn_r _ [1, 2, 3, 4, 5, 6, 7, 8] rfl (by decide +kernel)) (bs2_in _ _))) rfl rfl rfl (by decide +kernel) ⟨(Nat.le_of_ble_eq_true rfl), (Nat.le_of_ble_eq_true rfl)⟩) ⟨fun a U g mk q => by obtain ⟨q0, q1, qK, qE⟩ := q; exact ⟨q0, q1, va_K.moved (u := U) (U := U.calling g mk a) (Vm.Alike.refl U.vm) qK, EVC.blind g mk a qE⟩, gH_rc hK hT hr_o0 shc_14 rfl, fun U hU hW => ⟨rfl, hU, va_K.moved hW.alike hK, hE.call hS hFc hU hW⟩⟩ rfl rfl hl.1 rfl (lv_room (Nat.le_of_ble_eq_true rfl)) dX11_vote_2 ⟨(Nat.le_of_ble_eq_true rfl), (Nat.le_of_ble_eq_true rfl)⟩) hS (fun q _ h => hFc q h) hFc (fun q _ h => hFc q h) (fun E ce q9 u t H locs ht hvm _ hw2 _ _ hS hce hcv hcl => ?_) (fun u r1 t H locs ht hvm hw2 hB _ _ hS => ?_)
  · obtain ⟨hw2, hTx, hFx⟩ := hw2; rw [ht] at hTx hFx
    exact vx_out (fun x h => (hnt x h).elim) hlocks hce hcv hcl (fun t2 h2 hW => ⟨(), trivial, ⟨((fun h9 => (Or.inr h9)) hw2), by rw [h2]; exact hTx, by rw [h2]; exact hF.more hFx (by decide)⟩, hS.F h2⟩) hS.2.2 (by decide) (by decide)
  · obtain ⟨hr9, hT, hF1⟩ := hB
    rw [ht] at hT hF1
    have m3 := (hF1.fld hr_o0 skc_14 (k := 3) (by decide) (by decide)).trans hm_bd
    have hF := hF.more hF1 (by decide)
    obtain ⟨hg5, h6, m7⟩ : _ ∧ _ ∧ _ := hr9
    try dsimp only at hw2
    have fs8 := hFS p0.toNatClampNeg (by have := tn_of (show p0.toInt = p0.toInt from rfl) (by omega); omega) r1 m7
    have m9 := (hF.fld hg5 skc_10 (k := 7) (by decide) (by decide)).trans fs8.1
    refine lv_astore_n (lv' := [(3, .ref r1), (0, .ref o0), (1, .int p0), (2, .int p1)]) hx hb dX11_vote_5 rfl hl (by decide) rfl (fun ls hl => ?_)
    refine lv_aload_n hx hb dX11_vote_6 rfl (lv_at hl 1 rfl) ?_
    have hFc := gA_free hG hA hS
    refine vx_callv (vx_runV (As := []) (rest := []) ⟨hx, hb, hml, hown, hts⟩ (c_needVote l hlt dC dI kA adK adV G H nC nS o0 hT hr_o0 (by omega) (by omega)) (cwV 0 hts (goodIn_app (goodIn_r _ [15, 16, 17, 6] rfl (by decide +kernel)) (goodIn_ca (goodIn_r _ [12, 2, 13, 14] rfl (by decide +kernel)) (bs2_in _ _))) rfl rfl rfl (by decide +kernel) ⟨(Nat.le_of_ble_eq_true rfl), (Nat.le_of_ble_eq_true rfl)⟩) ⟨fun a U g mk q => by obtain ⟨q0, q1, qK, qE⟩ := q; exact ⟨q0, q1, va_K.moved (u := U) (U := U.calling g mk a) (Vm.Alike.refl U.vm) qK, EVC.blind g mk a qE⟩, gH_rc hK hT hr_o0 shc_14 rfl, fun U hU hW => ⟨rfl, hU, va_K.moved hW.alike hK, hE.call hS hFc hU hW⟩⟩ rfl rfl hl.1 rfl (lv_room (Nat.le_of_ble_eq_true rfl)) dX11_vote_7 ⟨(Nat.le_of_ble_eq_true rfl), (Nat.le_of_ble_eq_true rfl)⟩) hS (fun q _ h => hFc q h) hFc (fun q _ h => hFc q h) (fun E ce q9 u t H locs ht hvm _ hw11 _ _ hS hce hcv hcl => ?_) (fun u t H locs ht hvm hw11 hB _ _ hS => ?_)
    · obtain ⟨hw11, hTx, hFx⟩ := hw11; rw [ht] at hTx hFx
      exact vx_out (fun x h => (hnt x h).elim) hlocks hce hcv hcl (fun t2 h2 hW => ⟨(), trivial, ⟨((fun h9 => (Or.inl h9)) hw11), by rw [h2]; exact hTx, by rw [h2]; exact hF.more hFx (by decide)⟩, hS.F h2⟩) hS.2.2 (by decide) (by decide)
    · obtain ⟨hT, hF1⟩ := hB
      rw [ht] at hT hF1
      have m12 := (hF1.fld hr_o0 skc_14 (k := 3) (by decide) (by decide)).trans m3
      have m14 := (hF1.fld hg5 skc_10 (k := 7) (by decide) (by decide)).trans m9
      have hF := hF.more hF1 (by decide)
      try dsimp only at hw11
      refine lv_aload_n hx hb dX11_vote_10 rfl (lv_at hl 1 rfl) ?_
      refine tw_getM (v := .ref bd) hx hb hts bF2_X11 hown hK hT hr_o0 shc_14 rfl 3 (by decide) (ht_at2 hts 1 rfl) (fun _ h9 => h9) m12 dX11_vote_11 ?_
      refine lv_aload_n hx hb dX11_vote_14 rfl (lv_at hl 0 rfl) ?_
      refine lv_iload_n hx hb dX11_vote_15 rfl (lv_at hl 3 rfl) ?_
      refine lv_aload_n hx hb dX11_vote_16 rfl (lv_at hl 1 rfl) ?_
      refine tw_get hx hb hts bF2_X11 hown hK hT hr_o0 shc_14 rfl 1 (by decide) (ht_at2 hts 17 rfl) (fun _ h9 => h9) dX11_vote_17 (fun v9 m15 h9 => ?_)
      obtain ⟨b16, rfl, hg17⟩ := h9 _ rfl
      have hFc := gA_free hG hA hS
      refine va_calli (va_runV (As := [.ref r1, .int p1, .ref b16]) (rest := []) ⟨hx, hb, hml, hown, hts⟩ (c_hearZ l dC dI kA adK adV G H nC nS bd r1 p1 b16 (-1) hT hg5 hg17 hr_bd m14 (by have q8 := ti_all p1; omega) (rg_t (a := (-1)) (by decide) (by first | decide | omega) (by first | decide | omega)) (by omega) (by omega)) (cwV 3 hts (goodIn_app (goodIn_r _ [20, 21, 22, 23] rfl (by decide +kernel)) (goodIn_ca (goodIn_r _ [19] rfl (by decide +kernel)) (bs2_in _ _))) rfl rfl rfl (by decide +kernel) ⟨(Nat.le_of_ble_eq_true rfl), (Nat.le_of_ble_eq_true rfl)⟩) ⟨fun a U g mk q => by obtain ⟨q0, q1, qK, qE⟩ := q; exact ⟨q0, q1, va_K.moved (u := U) (U := U.calling g mk a) (Vm.Alike.refl U.vm) qK, EVC.blind g mk a qE⟩, gH_rc hK hT hr_bd shc_3 rfl, fun U hU hW => ⟨rfl, hU, va_K.moved hW.alike hK, hE.call hS hFc hU hW⟩⟩ rfl rfl hl.1 rfl (lv_room (Nat.le_of_ble_eq_true rfl)) dX11_vote_20 ⟨(Nat.le_of_ble_eq_true rfl), (Nat.le_of_ble_eq_true rfl)⟩) hS (fun q _ h => hFc q h) hFc (fun r18 u t H locs ht hvm hw19 hB _ _ hS => ?_)
      obtain ⟨hT, hF1⟩ := hB
      rw [ht] at hT hF1
      have hF := hF.more hF1 (by decide)
      try dsimp only at hw19
      obtain ⟨h24, hd25⟩ := hw19
      obtain rfl : (-1 : Int32) = r18 := hd25.symm
      exact vx_ret (W.iret (v := (-1)) hx hb hr (fun t ht hW => ⟨⟨(-1), (), rfl, (by exact (rg_t (a := (-1)) (by decide) (by first | decide | omega) (by first | decide | omega))), by (try dsimp only); rw [ht]; exact ⟨hT, hF⟩⟩, hS.F ht⟩) hS.2.2 dX11_vote_23)
def w_c_chooseZ : List Cond := .code yX11_choose cX11_choose 2 (some .int) :: (HAppend.hAppend (α := List Cond) (β := List Cond) (γ := List Cond) [.code yX11_within cX11_within 3 (some .boolean), .methodLink RX11 58 yX11_within, .static yX11_within, .initialized RX11, .code yX11_needNumbers cX11_needNumbers 1 none, .classLink RX11 547 "java/lang/IllegalArgumentException", .initialized "java/lang/IllegalArgumentException", .methodLink RX11 62 yX11_needNumbers, .static yX11_needNumbers, .fieldLink RX11 30 "SeaLand" "board" "LSeaLand$Board;", .fieldLink RX11 16 "SeaLand" "lake" "LSeaLand$Lake;", .code yX0_giveFarms cX0_giveFarms 7 (some .int), .fieldLink RX0 75 "SeaLand$Board" "settled" "I", .fieldLink RX0 185 "SeaLand$Board" "holding" "I", .code yX0_firstByMark cX0_firstByMark 3 (some .int), .fieldLink RX0 37 "SeaLand$Board" "marks" "[I", .fieldLink RX0 11 "SeaLand$Board" "settlers" "[LSeaLand$Settler;", .methodLink RX0 173 yX0_firstByMark, .instanceMethod yX0_firstByMark, .selects RX0 yX0_firstByMark yX0_firstByMark, .initialized RX0, .code yX0_bestFreeFarm cX0_bestFreeFarm 6 (some .int), .fieldLink RX0 143 "SeaLand$Board" "farms" "I", .fieldLink RX0 24 "SeaLand$Board" "held" "[Z", .code yX0_worthOf cX0_worthOf 7 (some .int), .fieldLink RX0 17 "SeaLand$Board" "farmOf" "[I", .methodLink RX0 161 Lib.Math.max.name, .static Lib.Math.max.name, .initialized "java/lang/Math", .code Lib.Math.max.name Lib.Math.max.code 2 (some .int), .methodLink RX0 191 yX0_worthOf, .instanceMethod yX0_worthOf, .selects RX0 yX0_worthOf yX0_worthOf, .methodLink RX0 181 yX0_bestFreeFarm, .instanceMethod yX0_bestFreeFarm, .selects RX0 yX0_bestFreeFarm yX0_bestFreeFarm, .code yX0_gatherFacts cX0_gatherFacts 3 none, .fieldLink RX0 33 "SeaLand$Board" "facts" "[J", .code yX0_acresOf cX0_acresOf 4 (some .int), .methodLink RX0 98 yX0_acresOf, .instanceMethod yX0_acresOf, .selects RX0 yX0_acresOf yX0_acresOf, .code yX0_nearOf cX0_nearOf 5 (some .int), .methodLink RX0 123 yX0_nearOf, .instanceMethod yX0_nearOf, .selects RX0 yX0_nearOf yX0_nearOf, .methodLink RX0 84 yX0_gatherFacts, .instanceMethod yX0_gatherFacts, .selects RX0 yX0_gatherFacts yX0_gatherFacts, .code yX0_isRuled cX0_isRuled 2 (some .boolean), .fieldLink RX0 41 "SeaLand$Board" "force" "LSeaLand$Law;", .code yX4_firstThatHolds cX4_firstThatHolds 4 (some .int), .fieldLink RX4 60 "SeaLand$Law" "lines" "I", .fieldLink RX4 18 "SeaLand$Law" "kinds" "[I", .code yX4_lineHolds cX4_lineHolds 6 (some .boolean), .fieldLink RX4 33 "SeaLand$Law" "stepFrom" "[I", .fieldLink RX4 36 "SeaLand$Law" "stepTo" "[I", .fieldLink RX4 39 "SeaLand$Law" "steps" "[I", .fieldLink RX4 42 "SeaLand$Law" "stack" "[J", .code yX4_joined cX4_joined 5 (some .long), .methodLink RX4 199 Lib.MathLoose.max_long.x, .static Lib.MathLoose.max_long.x, .code Lib.MathLoose.max_long.x Lib.MathLoose.max_long.code 4 (some .long), .methodLink RX4 195 yX4_joined, .static yX4_joined, .initialized RX4, .methodLink RX4 203 yX4_lineHolds, .instanceMethod yX4_lineHolds, .selects RX4 yX4_lineHolds yX4_lineHolds, .methodLink RX0 134 yX4_firstThatHolds, .instanceMethod yX4_firstThatHolds, .selects RX4 yX4_firstThatHolds yX4_firstThatHolds, .methodLink RX0 169 yX0_isRuled, .instanceMethod yX0_isRuled, .selects RX0 yX0_isRuled yX0_isRuled, .code yX0_ruled cX0_ruled 2 (some .int), .code yX4_sumThatHolds cX4_sumThatHolds 6 (some .long), .fieldLink RX4 21 "SeaLand$Law" "firsts" "[I", .methodLink RX0 130 yX4_sumThatHolds, .instanceMethod yX4_sumThatHolds, .selects RX4 yX4_sumThatHolds yX4_sumThatHolds, .methodLink RX0 88 yX0_ruled, .instanceMethod yX0_ruled, .selects RX0 yX0_ruled yX0_ruled, .methodLink RX11 373 yX0_giveFarms, .instanceMethod yX0_giveFarms, .selects RX0 yX0_giveFarms yX0_giveFarms] bs2)
set_option maxHeartbeats 4000000 in
set_option maxRecDepth 100000 in
theorem c_chooseZ (l : Launch) (hlt : l.stackTraces = false) (dC : Nat → ClassId) (dI : Nat → Nat → Nat) (kA : Nat → ClassId) (adK adV : Nat → Nat) (G : gT) (H0 : Heap) (nC nS : Int) (o0 : Nat) (p0 : Int32) (bd : Nat) (mk9 : Nat) (hd9 : Nat) (sA : Nat) (fm : Int32) (fa9 : Nat) (hl : Int32) (lw : Nat) (kn : Nat) (ln : Int32) (sf : Nat) (sto : Nat) (stp9 : Nat) (stk : Nat) (vM0 : Nat → Int32) (vh : Nat → Int32) (vK : Nat → Int32) (vF : Nat → Int32) (vT : Nat → Int32) (vS : Nat → Int32) (vQ : Nat → Int64) (fL : Nat → Int64) (A9 : zAl) (vA vD vC vU vI vW : Nat → Int32) (hT : gH (dC, dI) kA (SHc nC nS) G H0) (hr_o0 : G o0 = some 14) (hm_bd : el H0 o0 (dI 14 3) = some (.ref bd)) (hr_bd : G bd = some 3) (hm_mk9 : el H0 bd (dI 3 6) = some (.ref mk9)) (hr_mk9 : G mk9 = some 57) (hm_hd9 : el H0 bd (dI 3 3) = some (.ref hd9)) (hr_hd9 : G hd9 = some 54) (hm_sA : el H0 bd (dI 3 0) = some (.ref sA)) (hr_sA : G sA = some 51) (hm_fm : el H0 bd (dI 3 16) = some (.int fm)) (hm_fa9 : el H0 bd (dI 3 5) = some (.ref fa9)) (hr_fa9 : G fa9 = some 56) (hm_hl : el H0 bd (dI 3 15) = some (.int hl)) (hm_lw : el H0 bd (dI 3 7) = some (.ref lw)) (hr_lw : G lw = some 7) (hm_kn : el H0 lw (dI 7 2) = some (.ref kn)) (hr_kn : G kn = some 42) (hm_ln : el H0 lw (dI 7 11) = some (.int ln)) (hm_sf : el H0 lw (dI 7 7) = some (.ref sf)) (hr_sf : G sf = some 47) (hm_sto : el H0 lw (dI 7 8) = some (.ref sto)) (hr_sto : G sto = some 48) (hm_stp9 : el H0 lw (dI 7 9) = some (.ref stp9)) (hr_stp9 : G stp9 = some 49) (hm_stk : el H0 lw (dI 7 10) = some (.ref stk)) (hr_stk : G stk = some 50) (hq0 : 0 ≤ fm.toInt ∧ fm.toInt ≤ 30) (hq1 : 0 ≤ hl.toInt ∧ hl.toInt ≤ 0) (hq2 : 0 ≤ ln.toInt ∧ ln.toInt ≤ 20) (hnh : ∀ f : Nat, f < 30 → (vh f).toInt = 0) (hct : zct vh 30 = 0) (hFS : ∀ i : Nat, ((i : Nat) : Int) < nS → ∀ a : Nat, el H0 sA i = some (.ref a) → zSf dI H0 a (vA i) (vD i) (vC i) (vU i) (vI i) (vW i)) (hrp : zRp A9 vK vF vT (tz vS) 400) (hzk : ∀ e ∈ A9, zok e.2) (hln : ((A9.length : Nat) : Int) = ln.toInt) (hc_vM0 : ct H0 mk9 60 vM0) (hc_vh : ct H0 hd9 30 vh) (hc_vK : ct H0 kn 20 vK) (hc_vF : ct H0 sf 20 vF) (hc_vT : ct H0 sto 20 vT) (hc_vS : ct H0 stp9 400 vS) (hc_vQ : ctl H0 stk 20 vQ) (hc_fL : ctl H0 fa9 10 fL) (hgC : 0 ≤ nC ∧ nC ≤ 40) (hgS : 0 ≤ nS ∧ nS ≤ 60) : vx_Met l yX11_choose w_c_chooseZ ({ frames := 7, cells := 1, slots := 6, locals := 161 }) (va_Pc [.ref o0, .int p0] (fun U => U.heap = H0 ∧ va_K (dC, dI) vwCl (tyl kA) U ∧ EVC adK adV (gA G H0.size) U U.heap)) (va_Qi (fun (r : Int32) (u : Int32 × (Nat → Int32)) => match u with | (hl1, vh1) => (0 ≤ r.toInt ∧ r.toInt ≤ 60) ∧ ((0 < r.toInt ∧ ((1 ≤ p0.toInt ∧ p0.toInt ≤ 60) ∧ 0 < fm.toInt ∧ zNO (zLs (fun _ => 0) vA vD vC vU vI vW (fun _ => 0)) A9 nS)) ∨ (r.toInt = 0 ∧ ¬ ((1 ≤ p0.toInt ∧ p0.toInt ≤ 60) ∧ 0 < fm.toInt ∧ zNO (zLs (fun _ => 0) vA vD vC vU vI vW (fun _ => 0)) A9 nS) ∧ vh = vh1)) ∧ (hl1.toInt = r.toInt ∧ zct vh1 30 = hl1.toInt)) (fun (u : Int32 × (Nat → Int32)) (t : State) => match u with | (hl1, vh1) => gH (dC, dI) kA (SHc nC nS) G t.heap ∧ gF (dC, dI) SKc G ([(3, 15), (10, 7), (50, 0), (54, 0), (56, 0), (57, 0)] : List (Nat × Nat)) H0 t.heap ∧ el t.heap bd (dI 3 15) = some (.int hl1) ∧ ct t.heap hd9 30 vh1 ∧ (hl1 = 0 → gF (dC, dI) SKc G ([(3, 15), (50, 0), (56, 0), (57, 0)] : List (Nat × Nat)) H0 t.heap)) (gA G H0.size)) (vx_X (fun _ : Unit => True) (fun E _ t => (E = "java/lang/IllegalArgumentException") ∧ ((E = "java/lang/IllegalArgumentException" ∧ ¬ (0 ≤ p0.toInt ∧ p0.toInt ≤ 60))) ∧ gH (dC, dI) kA (SHc nC nS) G t.heap ∧ gF (dC, dI) SKc G ([(3, 15), (10, 7), (50, 0), (54, 0), (56, 0), (57, 0)] : List (Nat × Nat)) H0 t.heap ∧ (gF (dC, dI) SKc G ([] : List (Nat × Nat)) H0 t.heap)) (gA G H0.size)) 1 6 (gA G H0.size) := by
  refine vx_ofW (cc := cX11_choose) (maxL := 2) (ret := (some .int)) (by decide) rfl ?_
  intro p e s m args below meth c s₁ B hml hnt hv
  obtain ⟨rfl, hH0, hK, hE⟩ := hv
  have hx := B.exec
  have hb := B.bytes
  have hr := B.returns
  have hts := atoms_spec (ws := w_c_chooseZ) B.pre
  have hown : s.vm.findClass RX11 = some m.cls := findClass_of_methodNamed B.named
  have hlocks := B.notSynchronized
  subst hH0
  generalize hAe : gA G s.heap.size = A at hE ⊢
  have hA : ∀ q : Nat, s.heap.size ≤ q → A q := fun q h => by rw [← hAe]; exact Or.inr h
  have hG := gA_of hAe
  have hS : va_S A s.heap s.heap [] := va_S.rf
  have hF : gF (dC, dI) SKc G ([(3, 15), (10, 7), (50, 0), (54, 0), (56, 0), (57, 0)] : List (Nat × Nat)) s.heap s.heap := gF.rf
  have hl := lv_entry ([.ref o0, .int p0]) (n := 2) (Nat.le_of_ble_eq_true rfl)
  rw [lg_entry_eq]
  generalize (lg_sl ([.ref o0, .int p0]) ++ List.replicate (2 - (lg_sl ([.ref o0, .int p0])).length) Slot.unset).toArray = ls at hl ⊢
  have hl : lv_has ls 2 [(0, .ref o0), (1, .int p0)] := hl
  have hF2 : gF (dC, dI) SKc G ([] : List (Nat × Nat)) s.heap s.heap := gF.rf
  refine lv_iload_n hx hb dX11_choose_0 rfl (lv_at hl 1 rfl) ?_
  refine lv_iconst (v := 0) hx hb dX11_choose_1 (by decide) ?_
  refine lv_bipush (v := 60) hx hb dX11_choose_2 (by decide) ?_
  have hFc := gA_free hG hA hS
  refine va_calli (va_runS (As := [.int p0, .int 0, .int 60]) (rest := []) ⟨hx, hb, hml, hown, hts⟩ (c_within l dC dI kA adK adV G s.heap nC nS p0 0 60 hT (by omega) (by omega)) (va_cwS 3 hts (goodIn_app (goodIn_r _ [2, 3, 4] rfl (by decide +kernel)) (goodIn_ca (goodIn_r _ [1] rfl (by decide +kernel)) (bs2_in _ _))) rfl rfl rfl (by decide +kernel) ⟨(Nat.le_of_ble_eq_true rfl), (Nat.le_of_ble_eq_true rfl)⟩) ⟨fun a U g mk q => by obtain ⟨q0, q1, qK, qE⟩ := q; exact ⟨q0, q1, va_K.moved (u := U) (U := U.calling g mk a) (Vm.Alike.refl U.vm) qK, EVC.blind g mk a qE⟩, fun U hU hW => ⟨rfl, hU, va_K.moved hW.alike hK, hE.call hS hFc hU hW⟩⟩ rfl rfl hl.1 rfl (lv_room (Nat.le_of_ble_eq_true rfl)) dX11_choose_4 ⟨(Nat.le_of_ble_eq_true rfl), (Nat.le_of_ble_eq_true rfl)⟩) hS (fun q _ h => hFc q h) hFc (fun r1 u t H locs ht hvm hw2 hB _ _ hS => ?_)
  obtain ⟨hT, hF1⟩ := hB
  rw [ht] at hT hF1
  have m3 := (hF1.fld hr_o0 skc_14 (k := 3) (by decide) (by decide)).trans hm_bd
  have m4 := (hF1.fld hr_bd skc_3 (k := 6) (by decide) (by decide)).trans hm_mk9
  have m5 := (hF1.fld hr_bd skc_3 (k := 3) (by decide) (by decide)).trans hm_hd9
  have m6 := (hF1.fld hr_bd skc_3 (k := 0) (by decide) (by decide)).trans hm_sA
  have m7 := (hF1.fld hr_bd skc_3 (k := 16) (by decide) (by decide)).trans hm_fm
  have m8 := (hF1.fld hr_bd skc_3 (k := 5) (by decide) (by decide)).trans hm_fa9
  have m9 := (hF1.fld hr_bd skc_3 (k := 15) (by decide) (by decide)).trans hm_hl
  have m10 := (hF1.fld hr_bd skc_3 (k := 7) (by decide) (by decide)).trans hm_lw
  have m11 := (hF1.fld hr_lw skc_7 (k := 2) (by decide) (by decide)).trans hm_kn
  have m12 := (hF1.fld hr_lw skc_7 (k := 11) (by decide) (by decide)).trans hm_ln
  have m13 := (hF1.fld hr_lw skc_7 (k := 7) (by decide) (by decide)).trans hm_sf
  have m14 := (hF1.fld hr_lw skc_7 (k := 8) (by decide) (by decide)).trans hm_sto
  have m15 := (hF1.fld hr_lw skc_7 (k := 9) (by decide) (by decide)).trans hm_stp9
  have m16 := (hF1.fld hr_lw skc_7 (k := 10) (by decide) (by decide)).trans hm_stk
  have m17 := hc_vM0.kept (hF1.arr hr_mk9 skc_57 (by decide))
  have m18 := hc_vh.kept (hF1.arr hr_hd9 skc_54 (by decide))
  have m19 := hc_vK.kept (hF1.arr hr_kn skc_42 (by decide))
  have m20 := hc_vF.kept (hF1.arr hr_sf skc_47 (by decide))
  have m21 := hc_vT.kept (hF1.arr hr_sto skc_48 (by decide))
  have m22 := hc_vS.kept (hF1.arr hr_stp9 skc_49 (by decide))
  have m23 := hc_vQ.kept (hF1.arr hr_stk skc_50 (by decide))
  have m24 := hc_fL.kept (hF1.arr hr_fa9 skc_56 (by decide))
  have hF := hF.more hF1 (by decide)
  have hF2 := hF2.more hF1 (by decide)
  try dsimp only at hw2
  obtain ⟨h25, hi26, hi27⟩ := hw2
  have hb28 : r1 = 0 ∨ r1 = 1 := bit_of ⟨by omega, by omega⟩
  rcases hb28 with rfl | rfl
  · have t29 : (0 : Int32).toInt = 0 := by decide
    have t30 : (60 : Int32).toInt = 60 := by decide
    have t31 : p0.toInt < (0 : Int32).toInt ∨ (60 : Int32).toInt < p0.toInt := hi27 rfl
    have hFc := gA_free hG hA hS
    refine vx_callN (vx_runS (As := [.int 0]) (rest := []) ⟨hx, hb, hml, hown, hts⟩ (c_needNumbers0 l hlt dC dI kA adK adV G H nC nS hT (by omega) (by omega)) (va_cwS 1 hts (goodIn_app (goodIn_r _ [8, 9, 4] rfl (by decide +kernel)) (goodIn_ca (goodIn_r _ [5, 6, 7] rfl (by decide +kernel)) (bs2_in _ _))) rfl rfl rfl (by decide +kernel) ⟨(Nat.le_of_ble_eq_true rfl), (Nat.le_of_ble_eq_true rfl)⟩) ⟨fun a U g mk q => by obtain ⟨q0, q1, qK, qE⟩ := q; exact ⟨q0, q1, va_K.moved (u := U) (U := U.calling g mk a) (Vm.Alike.refl U.vm) qK, EVC.blind g mk a qE⟩, fun U hU hW => ⟨rfl, hU, va_K.moved hW.alike hK, hE.call hS hFc hU hW⟩⟩ rfl rfl hl.1 rfl (lv_room (Nat.le_of_ble_eq_true rfl)) dX11_choose_7 ⟨(Nat.le_of_ble_eq_true rfl), (Nat.le_of_ble_eq_true rfl)⟩) hS hFc (fun q _ h => hFc q h) (fun E ce q9 u t H locs ht hvm _ hw33 _ _ hS hce hcv hcl => ?_)
    obtain ⟨hw33, hTx, hFx⟩ := hw33; rw [ht] at hTx hFx
    exact vx_out (fun x h => (hnt x h).elim) hlocks hce hcv hcl (fun t2 h2 hW => ⟨(), trivial, ⟨((fun h9 => h9) hw33), (⟨hw33, (by first | omega | exact hxf.elim)⟩), by rw [h2]; exact hTx, by rw [h2]; exact hF.more hFx (by decide), by rw [h2]; exact hF2.more hFx (by decide)⟩, hS.F h2⟩) hS.2.2 (by decide) (by decide)
  · have t34 : (0 : Int32).toInt = 0 := by decide
    have t35 : (60 : Int32).toInt = 60 := by decide
    have t36 : (0 : Int32).toInt ≤ p0.toInt ∧ p0.toInt ≤ (60 : Int32).toInt := hi26 rfl
    have hFc := gA_free hG hA hS
    refine vx_callv (vx_runS (As := [.int 1]) (rest := []) ⟨hx, hb, hml, hown, hts⟩ (c_needNumbers1X l hlt dC dI kA adK adV G H nC nS hT (by omega) (by omega)) (va_cwS 1 hts (goodIn_app (goodIn_r _ [8, 9, 4] rfl (by decide +kernel)) (goodIn_ca (goodIn_r _ [5] rfl (by decide +kernel)) (bs2_in _ _))) rfl rfl rfl (by decide +kernel) ⟨(Nat.le_of_ble_eq_true rfl), (Nat.le_of_ble_eq_true rfl)⟩) ⟨fun a U g mk q => by obtain ⟨q0, q1, qK, qE⟩ := q; exact ⟨q0, q1, va_K.moved (u := U) (U := U.calling g mk a) (Vm.Alike.refl U.vm) qK, EVC.blind g mk a qE⟩, fun U hU hW => ⟨rfl, hU, va_K.moved hW.alike hK, hE.call hS hFc hU hW⟩⟩ rfl rfl hl.1 rfl (lv_room (Nat.le_of_ble_eq_true rfl)) dX11_choose_7 ⟨(Nat.le_of_ble_eq_true rfl), (Nat.le_of_ble_eq_true rfl)⟩) hS (fun q _ h => hFc q h) hFc (fun q _ h => hFc q h) (fun E ce q9 u t H locs ht hvm _ hw38 _ _ hS hce hcv hcl => ?_) (fun u t H locs ht hvm hw38 hB _ _ hS => ?_)
    · obtain ⟨hw38, hxf, hTx, hFx⟩ := hw38; rw [ht] at hTx hFx
      exact vx_out (fun x h => (hnt x h).elim) hlocks hce hcv hcl (fun t2 h2 hW => ⟨(), trivial, ⟨((fun h9 => h9) hw38), (⟨hw38, (by first | omega | exact hxf.elim)⟩), by rw [h2]; exact hTx, by rw [h2]; exact hF.more hFx (by decide), by rw [h2]; exact hF2.more hFx (by decide)⟩, hS.F h2⟩) hS.2.2 (by decide) (by decide)
    · obtain ⟨hT, hF1⟩ := hB
      rw [ht] at hT hF1
      have m39 := (hF1.fld hr_o0 skc_14 (k := 3) (by decide) (by decide)).trans m3
      have m40 := (hF1.fld hr_bd skc_3 (k := 6) (by decide) (by decide)).trans m4
      have m41 := (hF1.fld hr_bd skc_3 (k := 3) (by decide) (by decide)).trans m5
      have m42 := (hF1.fld hr_bd skc_3 (k := 0) (by decide) (by decide)).trans m6
      have m43 := (hF1.fld hr_bd skc_3 (k := 16) (by decide) (by decide)).trans m7
      have m44 := (hF1.fld hr_bd skc_3 (k := 5) (by decide) (by decide)).trans m8
      have m45 := (hF1.fld hr_bd skc_3 (k := 15) (by decide) (by decide)).trans m9
      have m46 := (hF1.fld hr_bd skc_3 (k := 7) (by decide) (by decide)).trans m10
      have m47 := (hF1.fld hr_lw skc_7 (k := 2) (by decide) (by decide)).trans m11
      have m48 := (hF1.fld hr_lw skc_7 (k := 11) (by decide) (by decide)).trans m12
      have m49 := (hF1.fld hr_lw skc_7 (k := 7) (by decide) (by decide)).trans m13
      have m50 := (hF1.fld hr_lw skc_7 (k := 8) (by decide) (by decide)).trans m14
      have m51 := (hF1.fld hr_lw skc_7 (k := 9) (by decide) (by decide)).trans m15
      have m52 := (hF1.fld hr_lw skc_7 (k := 10) (by decide) (by decide)).trans m16
      have m53 := m17.kept (hF1.arr hr_mk9 skc_57 (by decide))
      have m54 := m18.kept (hF1.arr hr_hd9 skc_54 (by decide))
      have m55 := m19.kept (hF1.arr hr_kn skc_42 (by decide))
      have m56 := m20.kept (hF1.arr hr_sf skc_47 (by decide))
      have m57 := m21.kept (hF1.arr hr_sto skc_48 (by decide))
      have m58 := m22.kept (hF1.arr hr_stp9 skc_49 (by decide))
      have m59 := m23.kept (hF1.arr hr_stk skc_50 (by decide))
      have m60 := m24.kept (hF1.arr hr_fa9 skc_56 (by decide))
      have hF := hF.more hF1 (by decide)
      have hF2 := hF2.more hF1 (by decide)
      try dsimp only at hw38
      refine lv_aload_n hx hb dX11_choose_10 rfl (lv_at hl 0 rfl) ?_
      refine tw_getM (v := .ref bd) hx hb hts bF2_X11 hown hK hT hr_o0 shc_14 rfl 3 (by decide) (ht_at2 hts 9 rfl) (fun _ h9 => h9) m39 dX11_choose_11 ?_
      refine lv_iload_n hx hb dX11_choose_14 rfl (lv_at hl 1 rfl) ?_
      refine lv_aload_n hx hb dX11_choose_15 rfl (lv_at hl 0 rfl) ?_
      refine tw_get hx hb hts bF2_X11 hown hK hT hr_o0 shc_14 rfl 1 (by decide) (ht_at2 hts 10 rfl) (fun _ h9 => h9) dX11_choose_16 (fun v9 m61 h9 => ?_)
      obtain ⟨b62, rfl, hg63⟩ := h9 _ rfl
      have hF2k := hF2
      have hFc := gA_free hG hA hS
      refine va_calli (va_runV (As := [.int p0, .ref b62]) (rest := []) ⟨hx, hb, hml, hown, hts⟩ (c_giveFarmsZ l dC dI kA adK adV G H nC nS bd p0 b62 mk9 hd9 sA fm fa9 hl lw kn ln sf sto stp9 stk vM0 vh vK vF vT vS vQ fL A9 vA vD vC vU vI vW hT hg63 hr_bd m40 hr_mk9 m41 hr_hd9 m42 hr_sA m43 m44 hr_fa9 m45 m46 hr_lw m47 hr_kn m48 m49 hr_sf m50 hr_sto m51 hr_stp9 m52 hr_stk (by have q8 := ti_all p0; omega) (by have q8 := ti_all fm; omega) (by have q8 := ti_all hl; omega) (by have q8 := ti_all ln; omega) hnh hct hFS hrp hzk hln m53 m54 m55 m56 m57 m58 m59 m60 (by omega) (by omega)) (cwV 2 hts (goodIn_app (goodIn_r _ [85, 86, 87, 21] rfl (by decide +kernel)) (goodIn_ca (goodIn_r _ [12, 13, 14, 15, 16, 17, 18, 19, 20, 21, 22, 23, 24, 25, 26, 27, 28, 29, 30, 31, 32, 33, 34, 35, 36, 37, 38, 39, 40, 41, 42, 43, 44, 45, 46, 47, 48, 49, 50, 51, 52, 53, 54, 55, 56, 57, 58, 59, 60, 61, 62, 63, 64, 65, 66, 67, 68, 69, 70, 71, 72, 73, 74, 75, 76, 77, 78, 79, 80, 81, 82, 83, 84] rfl (by decide +kernel)) (bs2_in _ _))) rfl rfl rfl (by decide +kernel) ⟨(Nat.le_of_ble_eq_true rfl), (Nat.le_of_ble_eq_true rfl)⟩) ⟨fun a U g mk q => by obtain ⟨q0, q1, qK, qE⟩ := q; exact ⟨q0, q1, va_K.moved (u := U) (U := U.calling g mk a) (Vm.Alike.refl U.vm) qK, EVC.blind g mk a qE⟩, gH_rc hK hT hr_bd shc_3 rfl, fun U hU hW => ⟨rfl, hU, va_K.moved hW.alike hK, hE.call hS hFc hU hW⟩⟩ rfl rfl hl.1 rfl (lv_room (Nat.le_of_ble_eq_true rfl)) dX11_choose_19 ⟨(Nat.le_of_ble_eq_true rfl), (Nat.le_of_ble_eq_true rfl)⟩) hS (fun q _ h => hFc q h) hFc (fun r64 u t H locs ht hvm hw65 hB _ _ hS => ?_)
      obtain ⟨u66, u67⟩ := u
      obtain ⟨hT, hF1, m68, m69, hbx70⟩ := hB
      rw [ht] at hT hF1 m68 m69 hbx70
      have hF := hF.more hF1 (by decide)
      try dsimp only at hw65
      obtain ⟨h94, hf95, hf96⟩ := hw65
      refine W.widen (k := 1) (n := 6) (by decide) (by decide) ?_
      exact vx_ret (W.iret (v := r64) hx hb hr (fun t ht hW => ⟨⟨r64, (u66, u67), rfl, (by exact ⟨(by have q8 := ti_all r64; omega), hf95, hf96⟩), by (try dsimp only); rw [ht]; exact ⟨hT, hF, m68, m69, (fun h9 => hF2k.wk.more (hbx70 h9) (fun _ h8 => h8))⟩⟩, hS.F ht⟩) hS.2.2 dX11_choose_22)
def w_c_chooseH : List Cond := .code yX11_choose cX11_choose 2 (some .int) :: (HAppend.hAppend (α := List Cond) (β := List Cond) (γ := List Cond) [.code yX11_within cX11_within 3 (some .boolean), .methodLink RX11 58 yX11_within, .static yX11_within, .initialized RX11, .code yX11_needNumbers cX11_needNumbers 1 none, .classLink RX11 547 "java/lang/IllegalArgumentException", .initialized "java/lang/IllegalArgumentException", .methodLink RX11 62 yX11_needNumbers, .static yX11_needNumbers, .fieldLink RX11 30 "SeaLand" "board" "LSeaLand$Board;", .fieldLink RX11 16 "SeaLand" "lake" "LSeaLand$Lake;", .code yX0_giveFarms cX0_giveFarms 7 (some .int), .fieldLink RX0 75 "SeaLand$Board" "settled" "I", .fieldLink RX0 185 "SeaLand$Board" "holding" "I", .code yX0_firstByMark cX0_firstByMark 3 (some .int), .fieldLink RX0 37 "SeaLand$Board" "marks" "[I", .fieldLink RX0 11 "SeaLand$Board" "settlers" "[LSeaLand$Settler;", .methodLink RX0 173 yX0_firstByMark, .instanceMethod yX0_firstByMark, .selects RX0 yX0_firstByMark yX0_firstByMark, .initialized RX0, .code yX0_bestFreeFarm cX0_bestFreeFarm 6 (some .int), .fieldLink RX0 143 "SeaLand$Board" "farms" "I", .fieldLink RX0 24 "SeaLand$Board" "held" "[Z", .code yX0_worthOf cX0_worthOf 7 (some .int), .fieldLink RX0 17 "SeaLand$Board" "farmOf" "[I", .methodLink RX0 161 Lib.Math.max.name, .static Lib.Math.max.name, .initialized "java/lang/Math", .code Lib.Math.max.name Lib.Math.max.code 2 (some .int), .methodLink RX0 191 yX0_worthOf, .instanceMethod yX0_worthOf, .selects RX0 yX0_worthOf yX0_worthOf, .methodLink RX0 181 yX0_bestFreeFarm, .instanceMethod yX0_bestFreeFarm, .selects RX0 yX0_bestFreeFarm yX0_bestFreeFarm, .code yX0_gatherFacts cX0_gatherFacts 3 none, .fieldLink RX0 33 "SeaLand$Board" "facts" "[J", .code yX0_acresOf cX0_acresOf 4 (some .int), .methodLink RX0 98 yX0_acresOf, .instanceMethod yX0_acresOf, .selects RX0 yX0_acresOf yX0_acresOf, .code yX0_nearOf cX0_nearOf 5 (some .int), .code yX3_stepsToBank cX3_stepsToBank 4 (some .int), .fieldLink RX3 47 "SeaLand$Lake" "built" "I", .fieldLink RX3 27 "SeaLand$Lake" "works" "[LSeaLand$Work;", .code yX10_isBank cX10_isBank 1 (some .boolean), .fieldLink RX10 18 "SeaLand$Work" "kind" "I", .methodLink RX3 67 yX10_isBank, .instanceMethod yX10_isBank, .selects RX10 yX10_isBank yX10_isBank, .initialized RX10, .code yX11_stepsApart cX11_stepsApart 2 (some .int), .methodLink RX11 580 Lib.Math.abs.name, .static Lib.Math.abs.name, .code Lib.Math.abs.name Lib.Math.abs.code 1 (some .int), .static yX11_stepsApart, .methodLink RX3 71 Lib.Math.min.name, .static Lib.Math.min.name, .code Lib.Math.min.name Lib.Math.min.code 2 (some .int), .methodLink RX0 138 yX3_stepsToBank, .instanceMethod yX3_stepsToBank, .selects RX3 yX3_stepsToBank yX3_stepsToBank, .initialized RX3, .methodLink RX0 166 Lib.Math.min.name, .methodLink RX0 123 yX0_nearOf, .instanceMethod yX0_nearOf, .selects RX0 yX0_nearOf yX0_nearOf, .methodLink RX0 84 yX0_gatherFacts, .instanceMethod yX0_gatherFacts, .selects RX0 yX0_gatherFacts yX0_gatherFacts, .code yX0_isRuled cX0_isRuled 2 (some .boolean), .fieldLink RX0 41 "SeaLand$Board" "force" "LSeaLand$Law;", .code yX4_firstThatHolds cX4_firstThatHolds 4 (some .int), .fieldLink RX4 60 "SeaLand$Law" "lines" "I", .fieldLink RX4 18 "SeaLand$Law" "kinds" "[I", .code yX4_lineHolds cX4_lineHolds 6 (some .boolean), .fieldLink RX4 33 "SeaLand$Law" "stepFrom" "[I", .fieldLink RX4 36 "SeaLand$Law" "stepTo" "[I", .fieldLink RX4 39 "SeaLand$Law" "steps" "[I", .fieldLink RX4 42 "SeaLand$Law" "stack" "[J", .code yX4_joined cX4_joined 5 (some .long), .methodLink RX4 199 Lib.MathLoose.max_long.x, .static Lib.MathLoose.max_long.x, .code Lib.MathLoose.max_long.x Lib.MathLoose.max_long.code 4 (some .long), .methodLink RX4 195 yX4_joined, .static yX4_joined, .initialized RX4, .methodLink RX4 203 yX4_lineHolds, .instanceMethod yX4_lineHolds, .selects RX4 yX4_lineHolds yX4_lineHolds, .methodLink RX0 134 yX4_firstThatHolds, .instanceMethod yX4_firstThatHolds, .selects RX4 yX4_firstThatHolds yX4_firstThatHolds, .methodLink RX0 169 yX0_isRuled, .instanceMethod yX0_isRuled, .selects RX0 yX0_isRuled yX0_isRuled, .code yX0_ruled cX0_ruled 2 (some .int), .code yX4_sumThatHolds cX4_sumThatHolds 6 (some .long), .fieldLink RX4 21 "SeaLand$Law" "firsts" "[I", .methodLink RX0 130 yX4_sumThatHolds, .instanceMethod yX4_sumThatHolds, .selects RX4 yX4_sumThatHolds yX4_sumThatHolds, .methodLink RX0 88 yX0_ruled, .instanceMethod yX0_ruled, .selects RX0 yX0_ruled yX0_ruled, .methodLink RX11 373 yX0_giveFarms, .instanceMethod yX0_giveFarms, .selects RX0 yX0_giveFarms yX0_giveFarms] bs2)
set_option maxHeartbeats 4000000 in
set_option maxRecDepth 100000 in
theorem c_chooseH (l : Launch) (hlt : l.stackTraces = false) (dC : Nat → ClassId) (dI : Nat → Nat → Nat) (kA : Nat → ClassId) (adK adV : Nat → Nat) (G : gT) (H0 : Heap) (nC nS : Int) (o0 : Nat) (p0 : Int32) (bd : Nat) (hd9 : Nat) (hl : Int32) (vh : Nat → Int32)  (hT : gH (dC, dI) kA (SHc nC nS) G H0) (hr_o0 : G o0 = some 14) (hm_bd : el H0 o0 (dI 14 3) = some (.ref bd)) (hr_bd : G bd = some 3) (hm_hd9 : el H0 bd (dI 3 3) = some (.ref hd9)) (hr_hd9 : G hd9 = some 54) (hm_hl : el H0 bd (dI 3 15) = some (.int hl)) (hq0 : 0 ≤ hl.toInt ∧ hl.toInt ≤ 30) (hct : zct vh 30 = hl.toInt) (hc_vh : ct H0 hd9 30 vh) (hgC : 0 ≤ nC ∧ nC ≤ 40) (hgS : 0 ≤ nS ∧ nS ≤ 60) : vx_Met l yX11_choose w_c_chooseH ({ frames := 7, cells := 1, slots := 6, locals := 161 }) (va_Pc [.ref o0, .int p0] (fun U => U.heap = H0 ∧ va_K (dC, dI) vwCl (tyl kA) U ∧ EVC adK adV (gA G H0.size) U U.heap)) (va_Qi (fun (r : Int32) (u : Int32 × (Nat → Int32)) => match u with | (hl1, vh1) => (0 ≤ r.toInt ∧ r.toInt ≤ 60) ∧ (zct vh1 30 = hl1.toInt ∧ hl.toInt ≤ hl1.toInt)) (fun (u : Int32 × (Nat → Int32)) (t : State) => match u with | (hl1, vh1) => gH (dC, dI) kA (SHc nC nS) G t.heap ∧ gF (dC, dI) SKc G ([(3, 15), (10, 7), (50, 0), (54, 0), (56, 0), (57, 0)] : List (Nat × Nat)) H0 t.heap ∧ el t.heap bd (dI 3 15) = some (.int hl1) ∧ ct t.heap hd9 30 vh1) (gA G H0.size)) (vx_X (fun _ : Unit => True) (fun E _ t => (E = "java/lang/IllegalArgumentException") ∧ ((E = "java/lang/IllegalArgumentException" ∧ ¬ (0 ≤ p0.toInt ∧ p0.toInt ≤ 60))) ∧ gH (dC, dI) kA (SHc nC nS) G t.heap ∧ gF (dC, dI) SKc G ([(3, 15), (10, 7), (50, 0), (54, 0), (56, 0), (57, 0)] : List (Nat × Nat)) H0 t.heap ∧ (gF (dC, dI) SKc G ([] : List (Nat × Nat)) H0 t.heap)) (gA G H0.size)) 1 6 (gA G H0.size) := by
  refine vx_ofW (cc := cX11_choose) (maxL := 2) (ret := (some .int)) (by decide) rfl ?_
  intro p e s m args below meth c s₁ B hml hnt hv
  obtain ⟨rfl, hH0, hK, hE⟩ := hv
  have hx := B.exec
  have hb := B.bytes
  have hr := B.returns
  have hts := atoms_spec (ws := w_c_chooseH) B.pre
  have hown : s.vm.findClass RX11 = some m.cls := findClass_of_methodNamed B.named
  have hlocks := B.notSynchronized
  subst hH0
  generalize hAe : gA G s.heap.size = A at hE ⊢
  have hA : ∀ q : Nat, s.heap.size ≤ q → A q := fun q h => by rw [← hAe]; exact Or.inr h
  have hG := gA_of hAe
  have hS : va_S A s.heap s.heap [] := va_S.rf
  have hF : gF (dC, dI) SKc G ([(3, 15), (10, 7), (50, 0), (54, 0), (56, 0), (57, 0)] : List (Nat × Nat)) s.heap s.heap := gF.rf
  have hl := lv_entry ([.ref o0, .int p0]) (n := 2) (Nat.le_of_ble_eq_true rfl)
  rw [lg_entry_eq]
  generalize (lg_sl ([.ref o0, .int p0]) ++ List.replicate (2 - (lg_sl ([.ref o0, .int p0])).length) Slot.unset).toArray = ls at hl ⊢
  have hl : lv_has ls 2 [(0, .ref o0), (1, .int p0)] := hl
  have hF2 : gF (dC, dI) SKc G ([] : List (Nat × Nat)) s.heap s.heap := gF.rf
  refine lv_iload_n hx hb dX11_choose_0 rfl (lv_at hl 1 rfl) ?_
  refine lv_iconst (v := 0) hx hb dX11_choose_1 (by decide) ?_
  refine lv_bipush (v := 60) hx hb dX11_choose_2 (by decide) ?_
  have hFc := gA_free hG hA hS
  refine va_calli (va_runS (As := [.int p0, .int 0, .int 60]) (rest := []) ⟨hx, hb, hml, hown, hts⟩ (c_within l dC dI kA adK adV G s.heap nC nS p0 0 60 hT (by omega) (by omega)) (va_cwS 3 hts (goodIn_app (goodIn_r _ [2, 3, 4] rfl (by decide +kernel)) (goodIn_ca (goodIn_r _ [1] rfl (by decide +kernel)) (bs2_in _ _))) rfl rfl rfl (by decide +kernel) ⟨(Nat.le_of_ble_eq_true rfl), (Nat.le_of_ble_eq_true rfl)⟩) ⟨fun a U g mk q => by obtain ⟨q0, q1, qK, qE⟩ := q; exact ⟨q0, q1, va_K.moved (u := U) (U := U.calling g mk a) (Vm.Alike.refl U.vm) qK, EVC.blind g mk a qE⟩, fun U hU hW => ⟨rfl, hU, va_K.moved hW.alike hK, hE.call hS hFc hU hW⟩⟩ rfl rfl hl.1 rfl (lv_room (Nat.le_of_ble_eq_true rfl)) dX11_choose_4 ⟨(Nat.le_of_ble_eq_true rfl), (Nat.le_of_ble_eq_true rfl)⟩) hS (fun q _ h => hFc q h) hFc (fun r1 u t H locs ht hvm hw2 hB _ _ hS => ?_)
  obtain ⟨hT, hF1⟩ := hB
  rw [ht] at hT hF1
  have m3 := (hF1.fld hr_o0 skc_14 (k := 3) (by decide) (by decide)).trans hm_bd
  have m4 := (hF1.fld hr_bd skc_3 (k := 3) (by decide) (by decide)).trans hm_hd9
  have m5 := (hF1.fld hr_bd skc_3 (k := 15) (by decide) (by decide)).trans hm_hl
  have m6 := hc_vh.kept (hF1.arr hr_hd9 skc_54 (by decide))
  have hF := hF.more hF1 (by decide)
  have hF2 := hF2.more hF1 (by decide)
  try dsimp only at hw2
  obtain ⟨h7, hi8, hi9⟩ := hw2
  have hb10 : r1 = 0 ∨ r1 = 1 := bit_of ⟨by omega, by omega⟩
  rcases hb10 with rfl | rfl
  · have t11 : (0 : Int32).toInt = 0 := by decide
    have t12 : (60 : Int32).toInt = 60 := by decide
    have t13 : p0.toInt < (0 : Int32).toInt ∨ (60 : Int32).toInt < p0.toInt := hi9 rfl
    have hFc := gA_free hG hA hS
    refine vx_callN (vx_runS (As := [.int 0]) (rest := []) ⟨hx, hb, hml, hown, hts⟩ (c_needNumbers0 l hlt dC dI kA adK adV G H nC nS hT (by omega) (by omega)) (va_cwS 1 hts (goodIn_app (goodIn_r _ [8, 9, 4] rfl (by decide +kernel)) (goodIn_ca (goodIn_r _ [5, 6, 7] rfl (by decide +kernel)) (bs2_in _ _))) rfl rfl rfl (by decide +kernel) ⟨(Nat.le_of_ble_eq_true rfl), (Nat.le_of_ble_eq_true rfl)⟩) ⟨fun a U g mk q => by obtain ⟨q0, q1, qK, qE⟩ := q; exact ⟨q0, q1, va_K.moved (u := U) (U := U.calling g mk a) (Vm.Alike.refl U.vm) qK, EVC.blind g mk a qE⟩, fun U hU hW => ⟨rfl, hU, va_K.moved hW.alike hK, hE.call hS hFc hU hW⟩⟩ rfl rfl hl.1 rfl (lv_room (Nat.le_of_ble_eq_true rfl)) dX11_choose_7 ⟨(Nat.le_of_ble_eq_true rfl), (Nat.le_of_ble_eq_true rfl)⟩) hS hFc (fun q _ h => hFc q h) (fun E ce q9 u t H locs ht hvm _ hw15 _ _ hS hce hcv hcl => ?_)
    obtain ⟨hw15, hTx, hFx⟩ := hw15; rw [ht] at hTx hFx
    exact vx_out (fun x h => (hnt x h).elim) hlocks hce hcv hcl (fun t2 h2 hW => ⟨(), trivial, ⟨((fun h9 => h9) hw15), (⟨hw15, (by first | omega | exact hxf.elim)⟩), by rw [h2]; exact hTx, by rw [h2]; exact hF.more hFx (by decide), by rw [h2]; exact hF2.more hFx (by decide)⟩, hS.F h2⟩) hS.2.2 (by decide) (by decide)
  · have t16 : (0 : Int32).toInt = 0 := by decide
    have t17 : (60 : Int32).toInt = 60 := by decide
    have t18 : (0 : Int32).toInt ≤ p0.toInt ∧ p0.toInt ≤ (60 : Int32).toInt := hi8 rfl
    have hFc := gA_free hG hA hS
    refine vx_callv (vx_runS (As := [.int 1]) (rest := []) ⟨hx, hb, hml, hown, hts⟩ (c_needNumbers1X l hlt dC dI kA adK adV G H nC nS hT (by omega) (by omega)) (va_cwS 1 hts (goodIn_app (goodIn_r _ [8, 9, 4] rfl (by decide +kernel)) (goodIn_ca (goodIn_r _ [5] rfl (by decide +kernel)) (bs2_in _ _))) rfl rfl rfl (by decide +kernel) ⟨(Nat.le_of_ble_eq_true rfl), (Nat.le_of_ble_eq_true rfl)⟩) ⟨fun a U g mk q => by obtain ⟨q0, q1, qK, qE⟩ := q; exact ⟨q0, q1, va_K.moved (u := U) (U := U.calling g mk a) (Vm.Alike.refl U.vm) qK, EVC.blind g mk a qE⟩, fun U hU hW => ⟨rfl, hU, va_K.moved hW.alike hK, hE.call hS hFc hU hW⟩⟩ rfl rfl hl.1 rfl (lv_room (Nat.le_of_ble_eq_true rfl)) dX11_choose_7 ⟨(Nat.le_of_ble_eq_true rfl), (Nat.le_of_ble_eq_true rfl)⟩) hS (fun q _ h => hFc q h) hFc (fun q _ h => hFc q h) (fun E ce q9 u t H locs ht hvm _ hw20 _ _ hS hce hcv hcl => ?_) (fun u t H locs ht hvm hw20 hB _ _ hS => ?_)
    · obtain ⟨hw20, hxf, hTx, hFx⟩ := hw20; rw [ht] at hTx hFx
      exact vx_out (fun x h => (hnt x h).elim) hlocks hce hcv hcl (fun t2 h2 hW => ⟨(), trivial, ⟨((fun h9 => h9) hw20), (⟨hw20, (by first | omega | exact hxf.elim)⟩), by rw [h2]; exact hTx, by rw [h2]; exact hF.more hFx (by decide), by rw [h2]; exact hF2.more hFx (by decide)⟩, hS.F h2⟩) hS.2.2 (by decide) (by decide)
    · obtain ⟨hT, hF1⟩ := hB
      rw [ht] at hT hF1
      have m21 := (hF1.fld hr_o0 skc_14 (k := 3) (by decide) (by decide)).trans m3
      have m22 := (hF1.fld hr_bd skc_3 (k := 3) (by decide) (by decide)).trans m4
      have m23 := (hF1.fld hr_bd skc_3 (k := 15) (by decide) (by decide)).trans m5
      have m24 := m6.kept (hF1.arr hr_hd9 skc_54 (by decide))
      have hF := hF.more hF1 (by decide)
      have hF2 := hF2.more hF1 (by decide)
      try dsimp only at hw20
      refine lv_aload_n hx hb dX11_choose_10 rfl (lv_at hl 0 rfl) ?_
      refine tw_getM (v := .ref bd) hx hb hts bF2_X11 hown hK hT hr_o0 shc_14 rfl 3 (by decide) (ht_at2 hts 9 rfl) (fun _ h9 => h9) m21 dX11_choose_11 ?_
      refine lv_iload_n hx hb dX11_choose_14 rfl (lv_at hl 1 rfl) ?_
      refine lv_aload_n hx hb dX11_choose_15 rfl (lv_at hl 0 rfl) ?_
      refine tw_get hx hb hts bF2_X11 hown hK hT hr_o0 shc_14 rfl 1 (by decide) (ht_at2 hts 10 rfl) (fun _ h9 => h9) dX11_choose_16 (fun v9 m25 h9 => ?_)
      obtain ⟨b26, rfl, hg27⟩ := h9 _ rfl
      have hFc := gA_free hG hA hS
      refine va_calli (va_runV (As := [.int p0, .ref b26]) (rest := []) ⟨hx, hb, hml, hown, hts⟩ (c_giveFarmsH l dC dI kA adK adV G H nC nS bd p0 b26 hd9 hl vh hT hg27 hr_bd m22 hr_hd9 m23 (by have q8 := ti_all p0; omega) (by have q8 := ti_all hl; omega) hct m24 (by omega) (by omega)) (cwV 2 hts (goodIn_app (goodIn_r _ [107, 108, 109, 21] rfl (by decide +kernel)) (goodIn_ca (goodIn_r _ [12, 13, 14, 15, 16, 17, 18, 19, 20, 21, 22, 23, 24, 25, 26, 27, 28, 29, 30, 31, 32, 33, 34, 35, 36, 37, 38, 39, 40, 41, 42, 43, 44, 45, 46, 47, 48, 49, 50, 51, 52, 53, 54, 55, 56, 4, 57, 58, 59, 60, 61, 62, 63, 64, 65, 66, 67, 68, 69, 70, 71, 72, 73, 74, 75, 76, 77, 78, 79, 80, 81, 82, 83, 84, 85, 86, 87, 88, 89, 90, 91, 92, 93, 94, 95, 96, 97, 98, 99, 100, 101, 102, 103, 104, 105, 106] rfl (by decide +kernel)) (bs2_in _ _))) rfl rfl rfl (by decide +kernel) ⟨(Nat.le_of_ble_eq_true rfl), (Nat.le_of_ble_eq_true rfl)⟩) ⟨fun a U g mk q => by obtain ⟨q0, q1, qK, qE⟩ := q; exact ⟨q0, q1, va_K.moved (u := U) (U := U.calling g mk a) (Vm.Alike.refl U.vm) qK, EVC.blind g mk a qE⟩, gH_rc hK hT hr_bd shc_3 rfl, fun U hU hW => ⟨rfl, hU, va_K.moved hW.alike hK, hE.call hS hFc hU hW⟩⟩ rfl rfl hl.1 rfl (lv_room (Nat.le_of_ble_eq_true rfl)) dX11_choose_19 ⟨(Nat.le_of_ble_eq_true rfl), (Nat.le_of_ble_eq_true rfl)⟩) hS (fun q _ h => hFc q h) hFc (fun r28 u t H locs ht hvm hw29 hB _ _ hS => ?_)
      obtain ⟨u30, u31⟩ := u
      obtain ⟨hT, hF1, m32, m33⟩ := hB
      rw [ht] at hT hF1 m32 m33
      have hF := hF.more hF1 (by decide)
      try dsimp only at hw29
      obtain ⟨h39, hf40⟩ := hw29
      refine W.widen (k := 1) (n := 6) (by decide) (by decide) ?_
      exact vx_ret (W.iret (v := r28) hx hb hr (fun t ht hW => ⟨⟨r28, (u30, u31), rfl, (by exact ⟨(by have q8 := ti_all r28; omega), hf40⟩), by (try dsimp only); rw [ht]; exact ⟨hT, hF, m32, m33⟩⟩, hS.F ht⟩) hS.2.2 dX11_choose_22)
def w_c_foundSpareZ : List Cond := .code yX0_foundSpare cX0_foundSpare 2 (some .int) :: (HAppend.hAppend (α := List Cond) (β := List Cond) (γ := List Cond) [.fieldLink RX0 41 "SeaLand$Board" "force" "LSeaLand$Law;", .fieldLink RX0 48 "SeaLand$Board" "spare" "LSeaLand$Law;"] bs2)
set_option maxHeartbeats 4000000 in
set_option maxRecDepth 100000 in
theorem c_foundSpareZ (l : Launch) (dC : Nat → ClassId) (dI : Nat → Nat → Nat) (kA : Nat → ClassId) (adK adV : Nat → Nat) (G : gT) (H0 : Heap) (nC nS : Int) (o0 : Nat) (fo : Nat) (sp : Nat) (l9 : Int32)  (hT : gH (dC, dI) kA (SHc nC nS) G H0) (hr_o0 : G o0 = some 166) (hm_fo : el H0 o0 (dI 3 7) = some (.ref fo)) (hr_fo : G fo = some 7) (hm_sp : el H0 o0 (dI 3 9) = some (.ref sp)) (hr_sp : G sp = some 152) (hm_l9 : el H0 sp (dI 7 11) = some (.int l9)) (hgC : 0 ≤ nC ∧ nC ≤ 40) (hgS : 0 ≤ nS ∧ nS ≤ 60) : Met l yX0_foundSpare w_c_foundSpareZ ({ frames := 0, cells := 0, slots := 0, locals := 0 }) (va_Pc [.ref o0] (fun U => U.heap = H0 ∧ va_K (dC, dI) vwCl (tyl kA) U ∧ EVC adK adV (gA G H0.size) U U.heap)) (va_Qi (fun (r : Int32) (u : Unit) => (r = l9)) (fun (_ : Unit) (t : State) => gH (dC, dI) kA (SHc nC nS) G t.heap ∧ gF (dC, dI) SKc G ([(166, 7), (166, 9)] : List (Nat × Nat)) H0 t.heap ∧ el t.heap o0 (dI 3 7) = some (.ref sp) ∧ el t.heap o0 (dI 3 9) = some (.ref fo)) (gA G H0.size)) 0 0 (gA G H0.size) := by
  refine Met.ofW (cc := cX0_foundSpare) (maxL := 2) (ret := (some .int)) (by decide) rfl ?_
  intro p e s m args below meth c s₁ B hml hv
  obtain ⟨rfl, hH0, hK, hE⟩ := hv
  have hx := B.exec
  have hb := B.bytes
  have hr := B.returns
  have hts := atoms_spec (ws := w_c_foundSpareZ) B.pre
  have hown : s.vm.findClass RX0 = some m.cls := findClass_of_methodNamed B.named
  have hlocks := B.notSynchronized
  subst hH0
  generalize hAe : gA G s.heap.size = A at hE ⊢
  have hA : ∀ q : Nat, s.heap.size ≤ q → A q := fun q h => by rw [← hAe]; exact Or.inr h
  have hG := gA_of hAe
  have hS : va_S A s.heap s.heap [] := va_S.rf
  have hF : gF (dC, dI) SKc G ([(166, 7), (166, 9)] : List (Nat × Nat)) s.heap s.heap := gF.rf
  have hl := lv_entry ([.ref o0]) (n := 2) (Nat.le_of_ble_eq_true rfl)
  rw [lg_entry_eq]
  generalize (lg_sl ([.ref o0]) ++ List.replicate (2 - (lg_sl ([.ref o0])).length) Slot.unset).toArray = ls at hl ⊢
  have hl : lv_has ls 2 [(0, .ref o0)] := hl
  refine lv_aload_n hx hb dX0_foundSpare_0 rfl (lv_at hl 0 rfl) ?_
  refine tw_getM (v := .ref fo) hx hb hts bF2_X0 hown hK hT hr_o0 shc_166 rfl 7 (by decide) (ht_at2 hts 0 rfl) (fun _ h9 => h9) hm_fo dX0_foundSpare_1 ?_
  refine lv_astore_n (lv' := [(1, .ref fo), (0, .ref o0)]) hx hb dX0_foundSpare_4 rfl hl (by decide) rfl (fun ls hl => ?_)
  refine lv_aload_n hx hb dX0_foundSpare_5 rfl (lv_at hl 1 rfl) ?_
  refine lv_aload_n hx hb dX0_foundSpare_6 rfl (lv_at hl 1 rfl) ?_
  refine tw_getM (v := .ref sp) hx hb hts bF2_X0 hown hK hT hr_o0 shc_166 rfl 9 (by decide) (ht_at2 hts 1 rfl) (fun _ h9 => h9) hm_sp dX0_foundSpare_7 ?_
  refine tw_put (v := .ref sp) (ty := (.object "SeaLand$Law")) hx hb hts bF2_X0 tyX0 tyX0_ok nmX0 hown hK hT hG hS hr_o0 shc_166 rfl 7 (by decide) (ht_at2 hts 0 rfl) (fun _ h9 => h9) rfl (by decide +kernel) rfl rfl (gl_at rfl ⟨_, rfl, Or.inr (Or.inr hr_sp)⟩) dX0_foundSpare_10 (fun H locs hT oq m1 oj hS => ?_)
  have hF := hF.put hr_o0 skc_166 oq oj (by decide)
  have m3 := (el_kept (oq _ (gne hr_sp hr_o0 (by decide)))).trans hm_l9
  refine lv_aload_n hx hb dX0_foundSpare_13 rfl (lv_at hl 1 rfl) ?_
  refine lv_aload_n hx hb dX0_foundSpare_14 rfl (lv_at hl 0 rfl) ?_
  refine tw_put (v := .ref fo) (ty := (.object "SeaLand$Law")) hx hb hts bF2_X0 tyX0 tyX0_ok nmX0 hown hK hT hG hS hr_o0 shc_166 rfl 9 (by decide) (ht_at2 hts 1 rfl) (fun _ h9 => h9) rfl (by decide +kernel) rfl rfl (gl_at rfl ⟨_, rfl, Or.inl hr_fo⟩) dX0_foundSpare_15 (fun H locs hT oq m4 oj hS => ?_)
  have hF := hF.put hr_o0 skc_166 oq oj (by decide)
  have m5 := (el_kept (oq _ (gne hr_sp hr_o0 (by decide)))).trans m3
  have m6 := (oj 7 (by decide) (by decide)).trans m1
  refine lv_aload_n hx hb dX0_foundSpare_18 rfl (lv_at hl 1 rfl) ?_
  refine tw_getM (v := .ref sp) hx hb hts bF2_X0 hown hK hT hr_o0 shc_166 rfl 7 (by decide) (ht_at2 hts 0 rfl) (fun _ h9 => h9) m6 dX0_foundSpare_19 ?_
  refine tw_getNM (v := .int l9) hx hb hts bF2_X4 hown hK hT hr_sp shc_152 rfl 11 (by decide) (hE.nw 59 rfl) (fun _ h9 => h9) m5 dX0_foundSpare_22 ?_
  exact W.iret (v := l9) hx hb hr (fun t ht hW => ⟨⟨l9, (), rfl, (by exact rfl), by (try dsimp only); rw [ht]; exact ⟨hT, hF, m6, m4⟩⟩, hS.F ht⟩) hS.2.2 dX0_foundSpare_25
def w_c_proposeSpareZ : List Cond := .code yX0_proposeSpare cX0_proposeSpare 3 (some .int) :: (HAppend.hAppend (α := List Cond) (β := List Cond) (γ := List Cond) [.fieldLink RX0 45 "SeaLand$Board" "proposed" "LSeaLand$Law;", .fieldLink RX0 48 "SeaLand$Board" "spare" "LSeaLand$Law;", .fieldLink RX0 64 "SeaLand$Board" "voting" "Z", .fieldLink RX0 68 "SeaLand$Board" "yesVotes" "J", .fieldLink RX0 72 "SeaLand$Board" "allVotes" "J", .fieldLink RX0 75 "SeaLand$Board" "settled" "I", .fieldLink RX0 11 "SeaLand$Board" "settlers" "[LSeaLand$Settler;"] bs2)
set_option maxHeartbeats 4000000 in
set_option maxRecDepth 100000 in
theorem c_proposeSpareZ (l : Launch) (dC : Nat → ClassId) (dI : Nat → Nat → Nat) (kA : Nat → ClassId) (adK adV : Nat → Nat) (G : gT) (H0 : Heap) (nC nS : Int) (o0 : Nat) (po : Nat) (sp : Nat) (l9 : Int32)  (hT : gH (dC, dI) kA (SHc nC nS) G H0) (hr_o0 : G o0 = some 166) (hm_po : el H0 o0 (dI 3 8) = some (.ref po)) (hr_po : G po = some 140) (hm_sp : el H0 o0 (dI 3 9) = some (.ref sp)) (hr_sp : G sp = some 152) (hm_l9 : el H0 sp (dI 7 11) = some (.int l9)) (hgC : 0 ≤ nC ∧ nC ≤ 40) (hgS : 0 ≤ nS ∧ nS ≤ 60) : Met l yX0_proposeSpare w_c_proposeSpareZ ({ frames := 0, cells := 0, slots := 0, locals := 0 }) (va_Pc [.ref o0] (fun U => U.heap = H0 ∧ va_K (dC, dI) vwCl (tyl kA) U ∧ EVC adK adV (gA G H0.size) U U.heap)) (va_Qi (fun (r : Int32) (u : Int32) => (u.toInt = 1) ∧ (r = l9)) (fun (v1 : Int32) (t : State) => gH (dC, dI) kA (SHc nC nS) G t.heap ∧ gF (dC, dI) SKc G ([(10, 11), (166, 8), (166, 9), (166, 11), (166, 12), (166, 13)] : List (Nat × Nat)) H0 t.heap ∧ el t.heap o0 (dI 3 11) = some (.int v1) ∧ el t.heap o0 (dI 3 8) = some (.ref sp) ∧ el t.heap o0 (dI 3 9) = some (.ref po) ∧ el t.heap o0 (dI 3 12) = some (.long 0) ∧ el t.heap o0 (dI 3 13) = some (.long 0)) (gA G H0.size)) 0 0 (gA G H0.size) := by
  refine Met.ofW (cc := cX0_proposeSpare) (maxL := 3) (ret := (some .int)) (by decide) rfl ?_
  intro p e s m args below meth c s₁ B hml hv
  obtain ⟨rfl, hH0, hK, hE⟩ := hv
  have hx := B.exec
  have hb := B.bytes
  have hr := B.returns
  have hts := atoms_spec (ws := w_c_proposeSpareZ) B.pre
  have hown : s.vm.findClass RX0 = some m.cls := findClass_of_methodNamed B.named
  have hlocks := B.notSynchronized
  subst hH0
  generalize hAe : gA G s.heap.size = A at hE ⊢
  have hA : ∀ q : Nat, s.heap.size ≤ q → A q := fun q h => by rw [← hAe]; exact Or.inr h
  have hG := gA_of hAe
  have hS : va_S A s.heap s.heap [] := va_S.rf
  have hF : gF (dC, dI) SKc G ([(10, 11), (166, 8), (166, 9), (166, 11), (166, 12), (166, 13)] : List (Nat × Nat)) s.heap s.heap := gF.rf
  have hl := lv_entry ([.ref o0]) (n := 3) (Nat.le_of_ble_eq_true rfl)
  rw [lg_entry_eq]
  generalize (lg_sl ([.ref o0]) ++ List.replicate (3 - (lg_sl ([.ref o0])).length) Slot.unset).toArray = ls at hl ⊢
  have hl : lv_has ls 3 [(0, .ref o0)] := hl
  refine lv_aload_n hx hb dX0_proposeSpare_0 rfl (lv_at hl 0 rfl) ?_
  refine tw_getM (v := .ref po) hx hb hts bF2_X0 hown hK hT hr_o0 shc_166 rfl 8 (by decide) (ht_at2 hts 0 rfl) (fun _ h9 => h9) hm_po dX0_proposeSpare_1 ?_
  refine lv_astore_n (lv' := [(1, .ref po), (0, .ref o0)]) hx hb dX0_proposeSpare_4 rfl hl (by decide) rfl (fun ls hl => ?_)
  refine lv_aload_n hx hb dX0_proposeSpare_5 rfl (lv_at hl 1 rfl) ?_
  refine lv_aload_n hx hb dX0_proposeSpare_6 rfl (lv_at hl 1 rfl) ?_
  refine tw_getM (v := .ref sp) hx hb hts bF2_X0 hown hK hT hr_o0 shc_166 rfl 9 (by decide) (ht_at2 hts 1 rfl) (fun _ h9 => h9) hm_sp dX0_proposeSpare_7 ?_
  refine tw_put (v := .ref sp) (ty := (.object "SeaLand$Law")) hx hb hts bF2_X0 tyX0 tyX0_ok nmX0 hown hK hT hG hS hr_o0 shc_166 rfl 8 (by decide) (ht_at2 hts 0 rfl) (fun _ h9 => h9) rfl (by decide +kernel) rfl rfl (gl_at rfl ⟨_, rfl, Or.inr (Or.inr hr_sp)⟩) dX0_proposeSpare_10 (fun H locs hT oq m1 oj hS => ?_)
  have hF := hF.put hr_o0 skc_166 oq oj (by decide)
  have m3 := (el_kept (oq _ (gne hr_sp hr_o0 (by decide)))).trans hm_l9
  refine lv_aload_n hx hb dX0_proposeSpare_13 rfl (lv_at hl 1 rfl) ?_
  refine lv_aload_n hx hb dX0_proposeSpare_14 rfl (lv_at hl 0 rfl) ?_
  refine tw_put (v := .ref po) (ty := (.object "SeaLand$Law")) hx hb hts bF2_X0 tyX0 tyX0_ok nmX0 hown hK hT hG hS hr_o0 shc_166 rfl 9 (by decide) (ht_at2 hts 1 rfl) (fun _ h9 => h9) rfl (by decide +kernel) rfl rfl (gl_at rfl ⟨_, rfl, Or.inr (Or.inl hr_po)⟩) dX0_proposeSpare_15 (fun H locs hT oq m4 oj hS => ?_)
  have hF := hF.put hr_o0 skc_166 oq oj (by decide)
  have m5 := (el_kept (oq _ (gne hr_sp hr_o0 (by decide)))).trans m3
  have m6 := (oj 8 (by decide) (by decide)).trans m1
  refine lv_aload_n hx hb dX0_proposeSpare_18 rfl (lv_at hl 1 rfl) ?_
  refine lv_iconst (v := 1) hx hb dX0_proposeSpare_19 (by decide) ?_
  refine tw_put (v := .int 1) (ty := .boolean) hx hb hts bF2_X0 tyX0 tyX0_ok nmX0 hown hK hT hG hS hr_o0 shc_166 rfl 11 (by decide) (ht_at2 hts 2 rfl) (fun _ h9 => h9) rfl (by decide +kernel) rfl rfl (gl_at rfl (gi_of (show (1 : Int32).toInt = 1 from (by decide)) (by first | decide | omega) (by first | decide | omega))) dX0_proposeSpare_20 (fun H locs hT oq m7 oj hS => ?_)
  have hF := hF.put hr_o0 skc_166 oq oj (by decide)
  have m8 := (el_kept (oq _ (gne hr_sp hr_o0 (by decide)))).trans m5
  have m9 := (oj 8 (by decide) (by decide)).trans m6
  have m10 := (oj 9 (by decide) (by decide)).trans m4
  refine lv_aload_n hx hb dX0_proposeSpare_23 rfl (lv_at hl 1 rfl) ?_
  refine lv_lconst (v := 0) hx hb dX0_proposeSpare_24 (by decide) ?_
  refine tw_put (v := .long 0) (ty := .long) hx hb hts bF2_X0 tyX0 tyX0_ok nmX0 hown hK hT hG hS hr_o0 shc_166 rfl 12 (by decide) (ht_at2 hts 3 rfl) (fun _ h9 => h9) rfl (by decide +kernel) rfl rfl (gl_at rfl ⟨_, rfl⟩) dX0_proposeSpare_25 (fun H locs hT oq m11 oj hS => ?_)
  have hF := hF.put hr_o0 skc_166 oq oj (by decide)
  have m12 := (el_kept (oq _ (gne hr_sp hr_o0 (by decide)))).trans m8
  have m13 := (oj 8 (by decide) (by decide)).trans m9
  have m14 := (oj 9 (by decide) (by decide)).trans m10
  have m15 := (oj 11 (by decide) (by decide)).trans m7
  refine lv_aload_n hx hb dX0_proposeSpare_28 rfl (lv_at hl 1 rfl) ?_
  refine lv_lconst (v := 0) hx hb dX0_proposeSpare_29 (by decide) ?_
  refine tw_put (v := .long 0) (ty := .long) hx hb hts bF2_X0 tyX0 tyX0_ok nmX0 hown hK hT hG hS hr_o0 shc_166 rfl 13 (by decide) (ht_at2 hts 4 rfl) (fun _ h9 => h9) rfl (by decide +kernel) rfl rfl (gl_at rfl ⟨_, rfl⟩) dX0_proposeSpare_30 (fun H locs hT oq m16 oj hS => ?_)
  have hF := hF.put hr_o0 skc_166 oq oj (by decide)
  have m17 := (el_kept (oq _ (gne hr_sp hr_o0 (by decide)))).trans m12
  have m18 := (oj 8 (by decide) (by decide)).trans m13
  have m19 := (oj 9 (by decide) (by decide)).trans m14
  have m20 := (oj 11 (by decide) (by decide)).trans m15
  have m21 := (oj 12 (by decide) (by decide)).trans m11
  refine lv_iconst (v := 0) hx hb dX0_proposeSpare_33 (by decide) ?_
  refine lv_istore_n (lv' := [(2, .int 0), (1, .ref po), (0, .ref o0)]) hx hb dX0_proposeSpare_34 rfl hl (by decide) rfl (fun ls hl => ?_)
  have key50 : ∀ (n50 i22 : Nat), i22 + n50 = 60 → 0 ≤ i22 → ∀ (H : Heap) (locs : List Loc), gH (dC, dI) kA (SHc nC nS) G H → gF (dC, dI) SKc G ([(10, 11), (166, 8), (166, 9), (166, 11), (166, 12), (166, 13)] : List (Nat × Nat)) s.heap H → va_S A s.heap H locs → el H sp (dI 7 11) = some (.int l9) → el H o0 (dI 3 8) = some (.ref sp) → el H o0 (dI 3 9) = some (.ref po) → el H o0 (dI 3 11) = some (.int 1) → el H o0 (dI 3 12) = some (.long 0) → el H o0 (dI 3 13) = some (.long 0) → ∀ ls : Array Slot, lv_has ls 3 [(2, .int (nI i22)), (1, .ref po), (0, .ref o0)] → W p l e (headSpec w_c_proposeSpareZ ({ frames := 0, cells := 0, slots := 0, locals := 0 })).room s m #[.ref o0] below meth c H locs 0 0 (MQ below (va_Qi (fun (r : Int32) (u : Int32) => (u.toInt = 1) ∧ (r = l9)) (fun (v1 : Int32) (t : State) => gH (dC, dI) kA (SHc nC nS) G t.heap ∧ gF (dC, dI) SKc G ([(10, 11), (166, 8), (166, 9), (166, 11), (166, 12), (166, 13)] : List (Nat × Nat)) s.heap t.heap ∧ el t.heap o0 (dI 3 11) = some (.int v1) ∧ el t.heap o0 (dI 3 8) = some (.ref sp) ∧ el t.heap o0 (dI 3 9) = some (.ref po) ∧ el t.heap o0 (dI 3 12) = some (.long 0) ∧ el t.heap o0 (dI 3 13) = some (.long 0)) A) #[.ref o0] s 0 0 A) (F0 m 35 ls []) := by
    intro n50
    induction n50 with
    | zero =>
      intro i22 hn50 hlo51  H locs hT hF hS m23 m24 m25 m26 m27 m28 ls hl
      obtain rfl : 60 = i22 := by omega
      refine lv_iload_n hx hb dX0_proposeSpare_35 rfl (lv_at hl 0 rfl) ?_
      refine lv_aload_n hx hb dX0_proposeSpare_36 rfl (lv_at hl 2 rfl) ?_
      refine tw_get hx hb hts bF2_X0 hown hK hT hr_o0 shc_166 rfl 14 (by decide) (ht_at2 hts 5 rfl) (fun _ h9 => h9) dX0_proposeSpare_37 (fun v9 m52 h9 => ?_)
      obtain ⟨x53, rfl, gx53, kx53⟩ := h9 _ rfl
      refine lv_icmp_ge (tgt := 59) hx hb dX0_proposeSpare_40 (by decide) (fun c54 => ?_) (fun c54 => (by exfalso; have q9 : ((60 : Nat) : Int) < x53.toInt := ti_nle c54 rfl (nI_toInt (by omega)); omega))
      have t55 : x53.toInt ≤ ((60 : Nat) : Int) := ti_le c54 rfl (nI_toInt (by omega))
      refine lv_aload_n hx hb dX0_proposeSpare_59 rfl (lv_at hl 2 rfl) ?_
      refine tw_getM (v := .ref sp) hx hb hts bF2_X0 hown hK hT hr_o0 shc_166 rfl 8 (by decide) (ht_at2 hts 0 rfl) (fun _ h9 => h9) m24 dX0_proposeSpare_60 ?_
      refine tw_getNM (v := .int l9) hx hb hts bF2_X4 hown hK hT hr_sp shc_152 rfl 11 (by decide) (hE.nw 59 rfl) (fun _ h9 => h9) m23 dX0_proposeSpare_63 ?_
      exact W.iret (v := l9) hx hb hr (fun t ht hW => ⟨⟨l9, (1 : Int32), rfl, (by exact ⟨(by have : (1 : Int32).toInt = 1 := (by decide); omega), rfl⟩), by (try dsimp only); rw [ht]; exact ⟨hT, hF, m26, m24, m25, m27, m28⟩⟩, hS.F ht⟩) hS.2.2 dX0_proposeSpare_66
    | succ n50 ih50 =>
      intro i22 hn50 hlo51  H locs hT hF hS m23 m24 m25 m26 m27 m28 ls hl
      have hlt55 : i22 < 60 := by omega
      refine lv_iload_n hx hb dX0_proposeSpare_35 rfl (lv_at hl 0 rfl) ?_
      refine lv_aload_n hx hb dX0_proposeSpare_36 rfl (lv_at hl 2 rfl) ?_
      refine tw_get hx hb hts bF2_X0 hown hK hT hr_o0 shc_166 rfl 14 (by decide) (ht_at2 hts 5 rfl) (fun _ h9 => h9) dX0_proposeSpare_37 (fun v9 m56 h9 => ?_)
      obtain ⟨x57, rfl, gx57, kx57⟩ := h9 _ rfl
      refine lv_icmp_ge (tgt := 59) hx hb dX0_proposeSpare_40 (by decide) (fun c58 => ?_) (fun c58 => ?_)
      · have t59 : x57.toInt ≤ ((i22 : Nat) : Int) := ti_le c58 rfl (nI_toInt (by omega))
        refine lv_aload_n hx hb dX0_proposeSpare_59 rfl (lv_at hl 2 rfl) ?_
        refine tw_getM (v := .ref sp) hx hb hts bF2_X0 hown hK hT hr_o0 shc_166 rfl 8 (by decide) (ht_at2 hts 0 rfl) (fun _ h9 => h9) m24 dX0_proposeSpare_60 ?_
        refine tw_getNM (v := .int l9) hx hb hts bF2_X4 hown hK hT hr_sp shc_152 rfl 11 (by decide) (hE.nw 59 rfl) (fun _ h9 => h9) m23 dX0_proposeSpare_63 ?_
        exact W.iret (v := l9) hx hb hr (fun t ht hW => ⟨⟨l9, (1 : Int32), rfl, (by exact ⟨(by have : (1 : Int32).toInt = 1 := (by decide); omega), rfl⟩), by (try dsimp only); rw [ht]; exact ⟨hT, hF, m26, m24, m25, m27, m28⟩⟩, hS.F ht⟩) hS.2.2 dX0_proposeSpare_66
      · have t60 : ((i22 : Nat) : Int) < x57.toInt := ti_nle c58 rfl (nI_toInt (by omega))
        refine lv_aload_n hx hb dX0_proposeSpare_43 rfl (lv_at hl 2 rfl) ?_
        refine tw_get hx hb hts bF2_X0 hown hK hT hr_o0 shc_166 rfl 0 (by decide) (ht_at2 hts 6 rfl) (fun _ h9 => h9) dX0_proposeSpare_44 (fun v9 m61 h9 => ?_)
        obtain ⟨b62, rfl, hg63⟩ := h9 _ rfl
        refine lv_iload_n hx hb dX0_proposeSpare_47 rfl (lv_at hl 0 rfl) ?_
        refine tw_aald (i := (nI i22)) hx hb hK hT hg63 shc_51 rfl (vp_in_nI (by omega) (by decide)) dX0_proposeSpare_48 (fun v9 m64 h9 => ?_)
        obtain ⟨b65, rfl, hg66⟩ := (h9.1 (by have q9 := tn_of (show (nI i22).toInt = ((i22 : Nat) : Int) from (nI_toInt (by omega))) (by omega); omega))
        refine lv_iconst (v := 0) hx hb dX0_proposeSpare_49 (by decide) ?_
        refine tw_putN (v := .int 0) (ty := .boolean) hx hb hts bF2_X7 tyX7 tyX7_ok nmX7 hown hK hT hG hS hg66 shc_10 rfl 11 (by decide) (hE.nw 60 rfl) (fun _ h9 => h9) rfl (by decide +kernel) rfl rfl (gl_at rfl (gi_of (show (0 : Int32).toInt = 0 from (by decide)) (by first | decide | omega) (by first | decide | omega))) dX0_proposeSpare_50 (fun H locs hT oq m67 oj hS => ?_)
        have hF := hF.put hg66 skc_10 oq oj (by decide)
        have m68 := (el_kept (oq _ (gne hr_sp hg66 (by decide)))).trans m23
        have m69 := (el_kept (oq _ (gne hr_o0 hg66 (by decide)))).trans m24
        have m70 := (el_kept (oq _ (gne hr_o0 hg66 (by decide)))).trans m25
        have m71 := (el_kept (oq _ (gne hr_o0 hg66 (by decide)))).trans m26
        have m72 := (el_kept (oq _ (gne hr_o0 hg66 (by decide)))).trans m27
        have m73 := (el_kept (oq _ (gne hr_o0 hg66 (by decide)))).trans m28
        refine lv_iinc (v := nI (i22 + 1)) (lv' := [(2, .int (nI (i22 + 1))), (1, .ref po), (0, .ref o0)]) hx hb dX0_proposeSpare_53 hl (k := 0) rfl (nI_add i22 1) (by decide) rfl (fun ls hl => ?_)
        refine lv_goto (tgt := 35) hx hb dX0_proposeSpare_56 (by decide) ?_
        exact ih50 (i22 + 1) (by omega) (by omega) _ _ hT hF hS m68 m69 m70 m71 m72 m73 ls (lv_sub hl [0, 1, 2] rfl)
  exact key50 (60 - 0) 0 (by omega) (Nat.le_refl _) _ _ hT hF hS m17 m18 m19 m20 m21 m16 ls (lv_sub hl [0, 1, 2] rfl)
def w_c_foundZ : List Cond := .code yX11_found cX11_found 1 (some .int) :: (HAppend.hAppend (α := List Cond) (β := List Cond) (γ := List Cond) [.fieldLink RX11 30 "SeaLand" "board" "LSeaLand$Board;", .fieldLink RX11 9 "SeaLand" "tape" "[I", .fieldLink RX11 47 "SeaLand" "taped" "I", .code yX4_read cX4_read 4 (some .int), .methodLink RX4 46 Lib.Math.min.name, .static Lib.Math.min.name, .initialized "java/lang/Math", .code Lib.Math.min.name Lib.Math.min.code 2 (some .int), .code yX4_scan cX4_scan 6 none, .fieldLink RX4 11 "SeaLand$Law" "things" "[I", .fieldLink RX4 15 "SeaLand$Law" "begins" "[I", .code yX4_thingEnd cX4_thingEnd 6 (some .int), .code yX4_isLetter cX4_isLetter 1 (some .boolean), .methodLink RX4 81 yX4_isLetter, .static yX4_isLetter, .initialized RX4, .code yX4_isDigit cX4_isDigit 1 (some .boolean), .methodLink RX4 84 yX4_isDigit, .static yX4_isDigit, .methodLink RX4 74 yX4_thingEnd, .static yX4_thingEnd, .code yX4_thingAt cX4_thingAt 3 (some .int), .code yX4_signThing cX4_signThing 1 (some .int), .methodLink RX4 93 yX4_signThing, .static yX4_signThing, .code yX4_numberThing cX4_numberThing 5 (some .int), .methodLink RX4 90 yX4_numberThing, .static yX4_numberThing, .code yX4_wordThing cX4_wordThing 4 (some .int), .code yX4_factThing cX4_factThing 3 (some .int), .code yX4_wordIs cX4_wordIs 5 (some .boolean), .code yJ0_length_8abf5 cJ0_length_8abf5 1 (some .int), .fieldLink RJ0 9 "java/lang/String" "value" "[B", .code yJ0_coder_7d493 cJ0_coder_7d493 1 (some .byte), .fieldLink RJ0 38 "java/lang/String" "COMPACT_STRINGS" "Z", .fieldLink RJ0 15 "java/lang/String" "coder" "B", .methodLink RJ0 335 yJ0_coder_7d493, .instanceMethod yJ0_coder_7d493, .selects RJ0 yJ0_coder_7d493 yJ0_coder_7d493, .initialized RJ0, .methodLink RX4 155 yJ0_length_8abf5, .instanceMethod yJ0_length_8abf5, .selects RJ0 yJ0_length_8abf5 yJ0_length_8abf5, .code yJ0_charAt_5068e cJ0_charAt_5068e 2 (some .char), .code yJ0_isLatin1_aae02 cJ0_isLatin1_aae02 1 (some .boolean), .methodLink RJ0 492 yJ0_isLatin1_aae02, .instanceMethod yJ0_isLatin1_aae02, .selects RJ0 yJ0_isLatin1_aae02 yJ0_isLatin1_aae02, .code yJ1_charAt_3b067 cJ1_charAt_3b067 2 (some .char), .code yJ0_checkIndex_df160 cJ0_checkIndex_df160 2 none, .fieldLink RJ0 1053 "jdk/internal/util/Preconditions" "SIOOBE_FORMATTER" "Ljava/util/function/BiFunction;", .code yJ3_checkIndex_8e157 cJ3_checkIndex_8e157 3 (some .int), .methodLink RJ0 1059 yJ3_checkIndex_8e157, .static yJ3_checkIndex_8e157, .initialized RJ3, .methodLink RJ1 9 yJ0_checkIndex_df160, .static yJ0_checkIndex_df160, .methodLink RJ0 495 yJ1_charAt_3b067, .static yJ1_charAt_3b067, .initialized RJ1, .methodLink RX4 161 yJ0_charAt_5068e, .instanceMethod yJ0_charAt_5068e, .selects RJ0 yJ0_charAt_5068e yJ0_charAt_5068e, .methodLink RX4 105 yX4_wordIs, .static yX4_wordIs, .methodLink RX4 97 yX4_factThing, .static yX4_factThing, .code yX4_lineThing cX4_lineThing 4 (some .int), .methodLink RX4 100 yX4_lineThing, .static yX4_lineThing, .methodLink RX4 87 yX4_wordThing, .static yX4_wordThing, .methodLink RX4 78 yX4_thingAt, .static yX4_thingAt, .methodLink RX4 52 yX4_scan, .instanceMethod yX4_scan, .selects RX4 yX4_scan yX4_scan, .fieldLink RX4 56 "SeaLand$Law" "at" "I", .fieldLink RX4 60 "SeaLand$Law" "lines" "I", .fieldLink RX4 63 "SeaLand$Law" "stepped" "I", .code yX4_readLine cX4_readLine 3 (some .boolean), .code yX4_lineKind cX4_lineKind 1 (some .int), .methodLink RX4 165 yX4_lineKind, .static yX4_lineKind, .fieldLink RX4 18 "SeaLand$Law" "kinds" "[I", .fieldLink RX4 33 "SeaLand$Law" "stepFrom" "[I", .code yX4_take cX4_take 2 (some .boolean), .methodLink RX4 70 yX4_take, .instanceMethod yX4_take, .selects RX4 yX4_take yX4_take, .fieldLink RX4 36 "SeaLand$Law" "stepTo" "[I", .code yX4_readAny cX4_readAny 4 (some .boolean), .code yX4_readAll cX4_readAll 4 (some .boolean), .code yX4_readAtom cX4_readAtom 4 (some .boolean), .code yX4_readComparison cX4_readComparison 3 (some .boolean), .code yX4_readSum cX4_readSum 3 (some .boolean), .code yX4_readPart cX4_readPart 2 (some .boolean), .code yX4_addStep cX4_addStep 2 none, .fieldLink RX4 39 "SeaLand$Law" "steps" "[I", .methodLink RX4 179 yX4_addStep, .instanceMethod yX4_addStep, .selects RX4 yX4_addStep yX4_addStep, .methodLink RX4 192 yX4_readPart, .instanceMethod yX4_readPart, .selects RX4 yX4_readPart yX4_readPart, .methodLink RX4 189 yX4_readSum, .instanceMethod yX4_readSum, .selects RX4 yX4_readSum yX4_readSum, .methodLink RX4 186 yX4_readComparison, .instanceMethod yX4_readComparison, .selects RX4 yX4_readComparison yX4_readComparison, .methodLink RX4 183 yX4_readAtom, .instanceMethod yX4_readAtom, .selects RX4 yX4_readAtom yX4_readAtom, .methodLink RX4 176 yX4_readAll, .instanceMethod yX4_readAll, .selects RX4 yX4_readAll yX4_readAll, .methodLink RX4 173 yX4_readAny, .instanceMethod yX4_readAny, .selects RX4 yX4_readAny yX4_readAny, .fieldLink RX4 21 "SeaLand$Law" "firsts" "[I", .code yX4_takeNumber cX4_takeNumber 4 (some .boolean), .methodLink RX4 168 yX4_takeNumber, .instanceMethod yX4_takeNumber, .selects RX4 yX4_takeNumber yX4_takeNumber, .fieldLink RX4 24 "SeaLand$Law" "seconds" "[I", .fieldLink RX4 27 "SeaLand$Law" "froms" "[I", .fieldLink RX4 30 "SeaLand$Law" "tos" "[I", .constant RX4 172 99999, .methodLink RX4 66 yX4_readLine, .instanceMethod yX4_readLine, .selects RX4 yX4_readLine yX4_readLine, .methodLink RX11 266 yX4_read, .instanceMethod yX4_read, .selects RX4 yX4_read yX4_read, .code yX11_needNumbers cX11_needNumbers 1 none, .classLink RX11 547 "java/lang/IllegalArgumentException", .initialized "java/lang/IllegalArgumentException", .methodLink RX11 62 yX11_needNumbers, .static yX11_needNumbers, .initialized RX11, .code yX0_foundSpare cX0_foundSpare 2 (some .int), .fieldLink RX0 41 "SeaLand$Board" "force" "LSeaLand$Law;", .fieldLink RX0 48 "SeaLand$Board" "spare" "LSeaLand$Law;", .methodLink RX11 280 yX0_foundSpare, .instanceMethod yX0_foundSpare, .selects RX0 yX0_foundSpare yX0_foundSpare, .initialized RX0, .classLink RX11 69 "java/lang/IllegalStateException", .initialized "java/lang/IllegalStateException"] bs2)
set_option maxHeartbeats 4000000 in
set_option maxRecDepth 100000 in
theorem c_foundZ (l : Launch) (hlt : l.stackTraces = false) (dC : Nat → ClassId) (dI : Nat → Nat → Nat) (kA : Nat → ClassId) (adK adV : Nat → Nat) (G : gT) (H0 : Heap) (nC nS : Int) (o0 : Nat) (bd : Nat) (tn : Int32) (ta : Nat) (sp : Nat) (fo : Nat) (hl : Int32) (kn9 : Nat) (sf9 : Nat) (st9 : Nat) (sp9 : Nat) (vc : Nat → Int32) (vK : Nat → Int32) (vF : Nat → Int32) (vE : Nat → Int32) (vS : Nat → Int32) (N : Nat) (fv : Int32) (hT : gH (dC, dI) kA (SHc nC nS) G H0) (hr_o0 : G o0 = some 167) (hm_bd : el H0 o0 (dI 14 3) = some (.ref bd)) (hr_bd : G bd = some 166) (hm_tn : el H0 o0 (dI 14 7) = some (.int tn)) (hm_ta : el H0 o0 (dI 14 0) = some (.ref ta)) (hr_ta : G ta = some 16) (hm_sp : el H0 bd (dI 3 9) = some (.ref sp)) (hr_sp : G sp = some 152) (hm_fo : el H0 bd (dI 3 7) = some (.ref fo)) (hr_fo : G fo = some 7) (hm_hl : el H0 bd (dI 3 15) = some (.int hl)) (hm_kn9 : el H0 sp (dI 7 2) = some (.ref kn9)) (hr_kn9 : G kn9 = some 155) (hm_sf9 : el H0 sp (dI 7 7) = some (.ref sf9)) (hr_sf9 : G sf9 = some 160) (hm_st9 : el H0 sp (dI 7 8) = some (.ref st9)) (hr_st9 : G st9 = some 161) (hm_sp9 : el H0 sp (dI 7 9) = some (.ref sp9)) (hr_sp9 : G sp9 = some 162) (hq0 : 0 ≤ tn.toInt ∧ tn.toInt ≤ 400) (hN : tn.toInt = ((N : Nat) : Int)) (hfv : fv = Int32.ofInt (laE (tc vc) N).2) (hc_vc : ct H0 ta 400 vc) (hc_vK : ct H0 kn9 20 vK) (hc_vF : ct H0 sf9 20 vF) (hc_vE : ct H0 st9 20 vE) (hc_vS : ct H0 sp9 400 vS) (hgC : 0 ≤ nC ∧ nC ≤ 40) (hgS : 0 ≤ nS ∧ nS ≤ 60) : vx_Met l yX11_found w_c_foundZ ({ frames := 27, cells := 1, slots := 6, locals := 614 }) (va_Pc [.ref o0] (fun U => U.heap = H0 ∧ va_K (dC, dI) vwCl (tyl kA) U ∧ EVC adK adV (gA G H0.size) U U.heap)) (va_Qi (fun (r : Int32) (u : Int32 × Int32 × Int32 × (Nat → Int32) × (Nat → Int32) × (Nat → Int32) × (Nat → Int32)) => match u with | (f1, t1, l1, vK1, vF1, vE1, vS1) => (0 ≤ r.toInt ∧ r.toInt ≤ 20) ∧ ((laE (tc vc) N).2 = -1 ∧ f1.toInt = fv.toInt ∧ t1.toInt = 0 ∧ hl.toInt ≤ 0 ∧ r.toInt = (laE (tc vc) N).1 ∧ l1.toInt = (laE (tc vc) N).1) ∧ (zRe (tc vc) N l1.toNatClampNeg vK1 vF1 vE1 (tz vS1))) (fun (u : Int32 × Int32 × Int32 × (Nat → Int32) × (Nat → Int32) × (Nat → Int32) × (Nat → Int32)) (t : State) => match u with | (f1, t1, l1, vK1, vF1, vE1, vS1) => gH (dC, dI) kA (SHc nC nS) G t.heap ∧ gF (dC, dI) SKc G ([(152, 11), (152, 12), (152, 13), (153, 0), (154, 0), (155, 0), (156, 0), (157, 0), (158, 0), (159, 0), (160, 0), (161, 0), (162, 0), (166, 7), (166, 9), (166, 10), (167, 7)] : List (Nat × Nat)) H0 t.heap ∧ el t.heap bd (dI 3 10) = some (.int f1) ∧ el t.heap o0 (dI 14 7) = some (.int t1) ∧ el t.heap sp (dI 7 11) = some (.int l1) ∧ el t.heap bd (dI 3 7) = some (.ref sp) ∧ el t.heap bd (dI 3 9) = some (.ref fo) ∧ ct t.heap kn9 20 vK1 ∧ ct t.heap sf9 20 vF1 ∧ ct t.heap st9 20 vE1 ∧ ct t.heap sp9 400 vS1) (gA G H0.size)) (vx_X (fun _ : Unit => True) (fun E _ t => (E = "java/lang/IllegalArgumentException" ∨ E = "java/lang/IllegalStateException") ∧ ((E = "java/lang/IllegalArgumentException" ∧ (laE (tc vc) N).2 ≠ -1) ∨ (E = "java/lang/IllegalStateException" ∧ ((laE (tc vc) N).2 = -1 ∧ 0 < hl.toInt))) ∧ gH (dC, dI) kA (SHc nC nS) G t.heap ∧ gF (dC, dI) SKc G ([(152, 11), (152, 12), (152, 13), (153, 0), (154, 0), (155, 0), (156, 0), (157, 0), (158, 0), (159, 0), (160, 0), (161, 0), (162, 0), (166, 7), (166, 9), (166, 10), (167, 7)] : List (Nat × Nat)) H0 t.heap ∧ el t.heap bd (dI 3 10) = some (.int fv) ∧ el t.heap o0 (dI 14 7) = some (.int 0) ∧ el t.heap bd (dI 3 7) = some (.ref fo) ∧ el t.heap bd (dI 3 9) = some (.ref sp)) (gA G H0.size)) 1 6 (gA G H0.size) := by
  refine vx_ofW (cc := cX11_found) (maxL := 1) (ret := (some .int)) (by decide) rfl ?_
  intro p e s m args below meth c s₁ B hml hnt hv
  obtain ⟨rfl, hH0, hK, hE⟩ := hv
  have hx := B.exec
  have hb := B.bytes
  have hr := B.returns
  have hts := atoms_spec (ws := w_c_foundZ) B.pre
  have hown : s.vm.findClass RX11 = some m.cls := findClass_of_methodNamed B.named
  have hlocks := B.notSynchronized
  subst hH0
  generalize hAe : gA G s.heap.size = A at hE ⊢
  have hA : ∀ q : Nat, s.heap.size ≤ q → A q := fun q h => by rw [← hAe]; exact Or.inr h
  have hG := gA_of hAe
  have hS : va_S A s.heap s.heap [] := va_S.rf
  have hF : gF (dC, dI) SKc G ([(152, 11), (152, 12), (152, 13), (153, 0), (154, 0), (155, 0), (156, 0), (157, 0), (158, 0), (159, 0), (160, 0), (161, 0), (162, 0), (166, 7), (166, 9), (166, 10), (167, 7)] : List (Nat × Nat)) s.heap s.heap := gF.rf
  have hl := lv_entry ([.ref o0]) (n := 1) (Nat.le_of_ble_eq_true rfl)
  rw [lg_entry_eq]
  generalize (lg_sl ([.ref o0]) ++ List.replicate (1 - (lg_sl ([.ref o0])).length) Slot.unset).toArray = ls at hl ⊢
  have hl : lv_has ls 1 [(0, .ref o0)] := hl
  refine lv_aload_n hx hb dX11_found_0 rfl (lv_at hl 0 rfl) ?_
  refine tw_getM (v := .ref bd) hx hb hts bF2_X11 hown hK hT hr_o0 shc_167 rfl 3 (by decide) (ht_at2 hts 0 rfl) (fun _ h9 => h9) hm_bd dX11_found_1 ?_
  refine lv_aload_n hx hb dX11_found_4 rfl (lv_at hl 0 rfl) ?_
  refine tw_getM (v := .ref bd) hx hb hts bF2_X11 hown hK hT hr_o0 shc_167 rfl 3 (by decide) (ht_at2 hts 0 rfl) (fun _ h9 => h9) hm_bd dX11_found_5 ?_
  refine tw_getNM (v := .ref sp) hx hb hts bF2_X0 hown hK hT hr_bd shc_166 rfl 9 (by decide) (hE.nw 24 rfl) (fun _ h9 => h9) hm_sp dX11_found_8 ?_
  refine lv_aload_n hx hb dX11_found_11 rfl (lv_at hl 0 rfl) ?_
  refine tw_getM (v := .ref ta) hx hb hts bF2_X11 hown hK hT hr_o0 shc_167 rfl 0 (by decide) (ht_at2 hts 1 rfl) (fun _ h9 => h9) hm_ta dX11_found_12 ?_
  refine lv_aload_n hx hb dX11_found_15 rfl (lv_at hl 0 rfl) ?_
  refine tw_getM (v := .int tn) hx hb hts bF2_X11 hown hK hT hr_o0 shc_167 rfl 7 (by decide) (ht_at2 hts 2 rfl) (fun _ h9 => h9) hm_tn dX11_found_16 ?_
  have hFc := gA_free hG hA hS
  refine va_calli (va_runV (As := [.ref ta, .int tn]) (rest := [.ref bd]) ⟨hx, hb, hml, hown, hts⟩ (c_read l dC dI kA adK adV G s.heap nC nS sp ta tn kn9 sf9 st9 sp9 vc vK vF vE vS N hT hr_ta hr_sp hm_kn9 hr_kn9 hm_sf9 hr_sf9 hm_st9 hr_st9 hm_sp9 hr_sp9 (by have q8 := ti_all tn; omega) hN hc_vc hc_vK hc_vF hc_vE hc_vS (by omega) (by omega)) (cwV 2 hts (goodIn_app (goodIn_r _ [133, 134, 135, 16] rfl (by decide +kernel)) (goodIn_ca (goodIn_r _ [4, 5, 6, 7, 8, 9, 10, 11, 12, 13, 14, 15, 16, 17, 18, 19, 20, 21, 22, 23, 24, 25, 26, 27, 28, 29, 30, 31, 32, 33, 34, 35, 36, 37, 38, 39, 40, 41, 42, 43, 44, 45, 46, 47, 48, 49, 50, 51, 52, 53, 54, 55, 56, 57, 58, 59, 60, 61, 62, 63, 64, 65, 66, 67, 68, 69, 70, 71, 72, 73, 74, 75, 76, 77, 78, 79, 80, 81, 82, 83, 84, 85, 86, 87, 88, 89, 90, 91, 92, 93, 94, 95, 96, 97, 98, 99, 100, 101, 102, 103, 104, 105, 106, 107, 108, 109, 110, 111, 112, 113, 114, 115, 116, 117, 118, 119, 120, 121, 122, 123, 124, 125, 126, 127, 128, 129, 130, 131, 132] rfl (by decide +kernel)) (bs2_in _ _))) rfl rfl rfl (by decide +kernel) ⟨(Nat.le_of_ble_eq_true rfl), (Nat.le_of_ble_eq_true rfl)⟩) ⟨fun a U g mk q => by obtain ⟨q0, q1, qK, qE⟩ := q; exact ⟨q0, q1, va_K.moved (u := U) (U := U.calling g mk a) (Vm.Alike.refl U.vm) qK, EVC.blind g mk a qE⟩, gH_rc hK hT hr_sp shc_152 rfl, fun U hU hW => ⟨rfl, hU, va_K.moved hW.alike hK, hE.call hS hFc hU hW⟩⟩ rfl rfl hl.1 rfl (lv_room (Nat.le_of_ble_eq_true rfl)) dX11_found_19 ⟨(Nat.le_of_ble_eq_true rfl), (Nat.le_of_ble_eq_true rfl)⟩) hS (fun q _ h => hFc q h) hFc (fun r1 u t H locs ht hvm hw2 hB _ _ hS => ?_)
  obtain ⟨u3, u4, u5, u6, u7⟩ := u
  obtain ⟨hT, hF1, m8, m9, m10, m11, m12⟩ := hB
  rw [ht] at hT hF1 m8 m9 m10 m11 m12
  have m13 := (hF1.fld hr_o0 skc_167 (k := 3) (by decide) (by decide)).trans hm_bd
  have m16 := (hF1.fld hr_bd skc_166 (k := 9) (by decide) (by decide)).trans hm_sp
  have m17 := (hF1.fld hr_bd skc_166 (k := 7) (by decide) (by decide)).trans hm_fo
  have m18 := (hF1.fld hr_bd skc_166 (k := 15) (by decide) (by decide)).trans hm_hl
  have hF := hF.more hF1 (by decide)
  try dsimp only at hw2
  obtain ⟨h28, hf29, hf30⟩ := hw2
  have la9 : r1.toInt = (laE (tc vc) N).2 ∧ (((laE (tc vc) N).2 = -1 ∧ u3.toInt = (laE (tc vc) N).1) ∨ (0 ≤ (laE (tc vc) N).2 ∧ (laE (tc vc) N).1 = -1)) := by rcases hf29 with ⟨a1, a2⟩ | ⟨a1, a2⟩ <;> obtain ⟨e1, e2⟩ := laE_s a2 <;> exact ⟨by omega, by omega⟩
  obtain rfl : fv = r1 := by rw [hfv, ← la9.1]; exact Int32.ofInt_toInt _
  refine tw_putN (v := .int fv) (ty := .int) hx hb hts bF2_X0 tyX0 tyX0_ok nmX0 hown hK hT hG hS hr_bd shc_166 rfl 10 (by decide) (hE.nw 25 rfl) (fun _ h9 => h9) rfl (by decide +kernel) rfl rfl (gl_at rfl (gi_all _)) dX11_found_22 (fun H locs hT oq m31 oj hS => ?_)
  have hF := hF.put hr_bd skc_166 oq oj (by decide)
  have m32 := (el_kept (oq _ (gne hr_o0 hr_bd (by decide)))).trans m13
  have m35 := (oj 9 (by decide) (by decide)).trans m16
  have m36 := (oj 7 (by decide) (by decide)).trans m17
  have m37 := (oj 15 (by decide) (by decide)).trans m18
  have m43 := (el_kept (oq _ (gne hr_sp hr_bd (by decide)))).trans m8
  have m44 := m9.kept (oq _ (gne hr_kn9 hr_bd (by decide)))
  have m45 := m10.kept (oq _ (gne hr_sf9 hr_bd (by decide)))
  have m46 := m11.kept (oq _ (gne hr_st9 hr_bd (by decide)))
  have m47 := m12.kept (oq _ (gne hr_sp9 hr_bd (by decide)))
  refine lv_aload_n hx hb dX11_found_25 rfl (lv_at hl 0 rfl) ?_
  refine lv_iconst (v := 0) hx hb dX11_found_26 (by decide) ?_
  refine tw_put (v := .int 0) (ty := .int) hx hb hts bF2_X11 tyX11 tyX11_ok nmX11 hown hK hT hG hS hr_o0 shc_167 rfl 7 (by decide) (ht_at2 hts 2 rfl) (fun _ h9 => h9) rfl (by decide +kernel) rfl rfl (gl_at rfl (gi_of (show (0 : Int32).toInt = 0 from (by decide)) (by first | decide | omega) (by first | decide | omega))) dX11_found_27 (fun H locs hT oq m48 oj hS => ?_)
  have hF := hF.put hr_o0 skc_167 oq oj (by decide)
  have m49 := (oj 3 (by decide) (by decide)).trans m32
  have m51 := (el_kept (oq _ (gne hr_bd hr_o0 (by decide)))).trans m35
  have m52 := (el_kept (oq _ (gne hr_bd hr_o0 (by decide)))).trans m36
  have m53 := (el_kept (oq _ (gne hr_bd hr_o0 (by decide)))).trans m37
  have m59 := (el_kept (oq _ (gne hr_sp hr_o0 (by decide)))).trans m43
  have m60 := m44.kept (oq _ (gne hr_kn9 hr_o0 (by decide)))
  have m61 := m45.kept (oq _ (gne hr_sf9 hr_o0 (by decide)))
  have m62 := m46.kept (oq _ (gne hr_st9 hr_o0 (by decide)))
  have m63 := m47.kept (oq _ (gne hr_sp9 hr_o0 (by decide)))
  have m64 := (el_kept (oq _ (gne hr_bd hr_o0 (by decide)))).trans m31
  refine lv_aload_n hx hb dX11_found_30 rfl (lv_at hl 0 rfl) ?_
  refine tw_getM (v := .ref bd) hx hb hts bF2_X11 hown hK hT hr_o0 shc_167 rfl 3 (by decide) (ht_at2 hts 0 rfl) (fun _ h9 => h9) m49 dX11_found_31 ?_
  refine tw_getNM (v := .int fv) hx hb hts bF2_X0 hown hK hT hr_bd shc_166 rfl 10 (by decide) (hE.nw 25 rfl) (fun _ h9 => h9) m64 dX11_found_34 ?_
  refine lv_iconst (v := (-1)) hx hb dX11_found_37 (by decide) ?_
  have t65 : -2147483648 ≤ fv.toInt ∧ fv.toInt ≤ 2147483647 := ti_all fv
  refine lv_icmp_ne (tgt := 45) hx hb dX11_found_38 (by decide) (fun c66 => ?_) (fun c66 => ?_)
  · have t67 : fv.toInt ≠ (-1) := ti_ne c66 rfl (by decide)
    refine lv_iconst (v := 0) hx hb dX11_found_45 (by decide) ?_
    have hFc := gA_free hG hA hS
    refine vx_callN (vx_runS (As := [.int 0]) (rest := []) ⟨hx, hb, hml, hown, hts⟩ (c_needNumbers0 l hlt dC dI kA adK adV G H nC nS hT (by omega) (by omega)) (va_cwS 1 hts (goodIn_app (goodIn_r _ [139, 140, 141] rfl (by decide +kernel)) (goodIn_ca (goodIn_r _ [136, 137, 138] rfl (by decide +kernel)) (bs2_in _ _))) rfl rfl rfl (by decide +kernel) ⟨(Nat.le_of_ble_eq_true rfl), (Nat.le_of_ble_eq_true rfl)⟩) ⟨fun a U g mk q => by obtain ⟨q0, q1, qK, qE⟩ := q; exact ⟨q0, q1, va_K.moved (u := U) (U := U.calling g mk a) (Vm.Alike.refl U.vm) qK, EVC.blind g mk a qE⟩, fun U hU hW => ⟨rfl, hU, va_K.moved hW.alike hK, hE.call hS hFc hU hW⟩⟩ rfl rfl hl.1 rfl (lv_room (Nat.le_of_ble_eq_true rfl)) dX11_found_46 ⟨(Nat.le_of_ble_eq_true rfl), (Nat.le_of_ble_eq_true rfl)⟩) hS hFc (fun q _ h => hFc q h) (fun E ce q9 u t H locs ht hvm _ hw69 _ _ hS hce hcv hcl => ?_)
    obtain ⟨hw69, hTx, hFx⟩ := hw69; rw [ht] at hTx hFx
    exact vx_out (fun x h => (hnt x h).elim) hlocks hce hcv hcl (fun t2 h2 hW => ⟨(), trivial, ⟨((fun h9 => (Or.inl h9)) hw69), (Or.inl ⟨hw69, (by first | omega | exact hxf.elim)⟩), by rw [h2]; exact hTx, by rw [h2]; exact hF.more hFx (by decide), by rw [h2]; exact (hFx.fld hr_bd skc_166 (k := 10) (by decide) (by decide)).trans m64, by rw [h2]; exact (hFx.fld hr_o0 skc_167 (k := 7) (by decide) (by decide)).trans m48, by rw [h2]; exact (hFx.fld hr_bd skc_166 (k := 7) (by decide) (by decide)).trans m52, by rw [h2]; exact (hFx.fld hr_bd skc_166 (k := 9) (by decide) (by decide)).trans m51⟩, hS.F h2⟩) hS.2.2 (by decide) (by decide)
  · have t70 : fv.toInt = (-1) := ti_eq c66 rfl (by decide)
    refine lv_iconst (v := 1) hx hb dX11_found_41 (by decide) ?_
    refine lv_goto (tgt := 46) hx hb dX11_found_42 (by decide) ?_
    have hFc := gA_free hG hA hS
    refine vx_callv (vx_runS (As := [.int 1]) (rest := []) ⟨hx, hb, hml, hown, hts⟩ (c_needNumbers1X l hlt dC dI kA adK adV G H nC nS hT (by omega) (by omega)) (va_cwS 1 hts (goodIn_app (goodIn_r _ [139, 140, 141] rfl (by decide +kernel)) (goodIn_ca (goodIn_r _ [136] rfl (by decide +kernel)) (bs2_in _ _))) rfl rfl rfl (by decide +kernel) ⟨(Nat.le_of_ble_eq_true rfl), (Nat.le_of_ble_eq_true rfl)⟩) ⟨fun a U g mk q => by obtain ⟨q0, q1, qK, qE⟩ := q; exact ⟨q0, q1, va_K.moved (u := U) (U := U.calling g mk a) (Vm.Alike.refl U.vm) qK, EVC.blind g mk a qE⟩, fun U hU hW => ⟨rfl, hU, va_K.moved hW.alike hK, hE.call hS hFc hU hW⟩⟩ rfl rfl hl.1 rfl (lv_room (Nat.le_of_ble_eq_true rfl)) dX11_found_46 ⟨(Nat.le_of_ble_eq_true rfl), (Nat.le_of_ble_eq_true rfl)⟩) hS (fun q _ h => hFc q h) hFc (fun q _ h => hFc q h) (fun E ce q9 u t H locs ht hvm _ hw72 _ _ hS hce hcv hcl => ?_) (fun u t H locs ht hvm hw72 hB _ _ hS => ?_)
    · obtain ⟨hw72, hxf, hTx, hFx⟩ := hw72; rw [ht] at hTx hFx
      exact vx_out (fun x h => (hnt x h).elim) hlocks hce hcv hcl (fun t2 h2 hW => ⟨(), trivial, ⟨((fun h9 => (Or.inl h9)) hw72), (Or.inl ⟨hw72, (by first | omega | exact hxf.elim)⟩), by rw [h2]; exact hTx, by rw [h2]; exact hF.more hFx (by decide), by rw [h2]; exact (hFx.fld hr_bd skc_166 (k := 10) (by decide) (by decide)).trans m64, by rw [h2]; exact (hFx.fld hr_o0 skc_167 (k := 7) (by decide) (by decide)).trans m48, by rw [h2]; exact (hFx.fld hr_bd skc_166 (k := 7) (by decide) (by decide)).trans m52, by rw [h2]; exact (hFx.fld hr_bd skc_166 (k := 9) (by decide) (by decide)).trans m51⟩, hS.F h2⟩) hS.2.2 (by decide) (by decide)
    · obtain ⟨hT, hF1⟩ := hB
      rw [ht] at hT hF1
      have m73 := (hF1.fld hr_o0 skc_167 (k := 3) (by decide) (by decide)).trans m49
      have m75 := (hF1.fld hr_bd skc_166 (k := 9) (by decide) (by decide)).trans m51
      have m76 := (hF1.fld hr_bd skc_166 (k := 7) (by decide) (by decide)).trans m52
      have m77 := (hF1.fld hr_bd skc_166 (k := 15) (by decide) (by decide)).trans m53
      have m83 := (hF1.fld hr_sp skc_152 (k := 11) (by decide) (by decide)).trans m59
      have m84 := m60.kept (hF1.arr hr_kn9 skc_155 (by decide))
      have m85 := m61.kept (hF1.arr hr_sf9 skc_160 (by decide))
      have m86 := m62.kept (hF1.arr hr_st9 skc_161 (by decide))
      have m87 := m63.kept (hF1.arr hr_sp9 skc_162 (by decide))
      have m88 := (hF1.fld hr_bd skc_166 (k := 10) (by decide) (by decide)).trans m64
      have m89 := (hF1.fld hr_o0 skc_167 (k := 7) (by decide) (by decide)).trans m48
      have hF := hF.more hF1 (by decide)
      try dsimp only at hw72
      refine lv_aload_n hx hb dX11_found_49 rfl (lv_at hl 0 rfl) ?_
      refine tw_getM (v := .ref bd) hx hb hts bF2_X11 hown hK hT hr_o0 shc_167 rfl 3 (by decide) (ht_at2 hts 0 rfl) (fun _ h9 => h9) m73 dX11_found_50 ?_
      refine tw_getNM (v := .int hl) hx hb hts bF2_X0 hown hK hT hr_bd shc_166 rfl 15 (by decide) (hE.nw 26 rfl) (fun _ h9 => h9) m77 dX11_found_53 ?_
      have t90 : -2147483648 ≤ hl.toInt ∧ hl.toInt ≤ 2147483647 := ti_all hl
      refine lv_if_le (tgt := 70) hx hb dX11_found_56 (by decide) (fun c91 => ?_) (fun c91 => ?_)
      · have t92 : hl.toInt ≤ 0 := ti_le c91 rfl (by decide)
        refine lv_aload_n hx hb dX11_found_70 rfl (lv_at hl 0 rfl) ?_
        refine tw_getM (v := .ref bd) hx hb hts bF2_X11 hown hK hT hr_o0 shc_167 rfl 3 (by decide) (ht_at2 hts 0 rfl) (fun _ h9 => h9) m73 dX11_found_71 ?_
        have hFc := gA_free hG hA hS
        refine va_calli (va_runV (As := []) (rest := []) ⟨hx, hb, hml, hown, hts⟩ (c_foundSpareZ l dC dI kA adK adV G H nC nS bd fo sp u3 hT hr_bd m76 hr_fo m75 hr_sp m83 (by omega) (by omega)) (cwV 0 hts (goodIn_app (goodIn_r _ [145, 146, 147, 148] rfl (by decide +kernel)) (goodIn_ca (goodIn_r _ [142, 143, 144] rfl (by decide +kernel)) (bs2_in _ _))) rfl rfl rfl (by decide +kernel) ⟨(Nat.le_of_ble_eq_true rfl), (Nat.le_of_ble_eq_true rfl)⟩) ⟨fun a U g mk q => by obtain ⟨q0, q1, qK, qE⟩ := q; exact ⟨q0, q1, va_K.moved (u := U) (U := U.calling g mk a) (Vm.Alike.refl U.vm) qK, EVC.blind g mk a qE⟩, gH_rc hK hT hr_bd shc_166 rfl, fun U hU hW => ⟨rfl, hU, va_K.moved hW.alike hK, hE.call hS hFc hU hW⟩⟩ rfl rfl hl.1 rfl (lv_room (Nat.le_of_ble_eq_true rfl)) dX11_found_74 ⟨(Nat.le_of_ble_eq_true rfl), (Nat.le_of_ble_eq_true rfl)⟩) hS (fun q _ h => hFc q h) hFc (fun r93 u t H locs ht hvm hw94 hB _ _ hS => ?_)
        obtain ⟨hT, hF1, m95, m96⟩ := hB
        rw [ht] at hT hF1 m95 m96
        have m107 := (hF1.fld hr_sp skc_152 (k := 11) (by decide) (by decide)).trans m83
        have m108 := m84.kept (hF1.arr hr_kn9 skc_155 (by decide))
        have m109 := m85.kept (hF1.arr hr_sf9 skc_160 (by decide))
        have m110 := m86.kept (hF1.arr hr_st9 skc_161 (by decide))
        have m111 := m87.kept (hF1.arr hr_sp9 skc_162 (by decide))
        have m112 := (hF1.fld hr_bd skc_166 (k := 10) (by decide) (by decide)).trans m88
        have m113 := (hF1.fld hr_o0 skc_167 (k := 7) (by decide) (by decide)).trans m89
        have hF := hF.more hF1 (by decide)
        try dsimp only at hw94
        have hd114 := hw94
        obtain rfl : u3 = r93 := hd114.symm
        refine W.widen (k := 1) (n := 6) (by decide) (by decide) ?_
        exact vx_ret (W.iret (v := u3) hx hb hr (fun t ht hW => ⟨⟨u3, (fv, (0 : Int32), u3, u4, u5, u6, u7), rfl, (by exact ⟨(by have q8 := ti_all u3; omega), (by have : (0 : Int32).toInt = 0 := (by decide); omega), (hf30 (by omega))⟩), by (try dsimp only); rw [ht]; exact ⟨hT, hF, m112, m113, m107, m95, m96, m108, m109, m110, m111⟩⟩, hS.F ht⟩) hS.2.2 dX11_found_77)
      · have t115 : 0 < hl.toInt := ti_nle c91 rfl (by decide)
        obtain ⟨sa116, hsa116⟩ := hE.str 4 rfl
        exact vx_throwSW (names := ["java/lang/RuntimeException", "java/lang/Exception"]) hx hb hlt hown (by decide +kernel) (by decide +kernel) (ht_at2 hts 148 rfl) (ht_at2 hts 149 rfl) hsa116 (bX2_at3 hts hE) bX_ok3_69 hE.1.1.2.2.1 hE.1.1.2.2.2 hS (by rw [hml]; exact hl.1) dX11_found_59 dX11_found_62 dX11_found_63 dX11_found_66 dX11_found_69 (fun x h => (hnt x h).elim) (by decide) (Nat.le_of_ble_eq_true rfl) (Nat.le_of_ble_eq_true rfl) (Nat.le_of_ble_eq_true rfl) hlocks (fun t hW hz hq => ⟨(), trivial, ⟨(Or.inr rfl), (Or.inr (⟨rfl, (by first | omega | exact hxf.elim)⟩)), hT.ext hq, hF.ext hT hq, (el_kept (hq _ (hT.lt hr_bd))).trans m88, (el_kept (hq _ (hT.lt hr_o0))).trans m89, (el_kept (hq _ (hT.lt hr_bd))).trans m76, (el_kept (hq _ (hT.lt hr_bd))).trans m75⟩, Nat.le_trans hS.1 hz, fun q h1 h2 => (hq q (Nat.lt_of_lt_of_le h1 hS.1)).trans (hS.2.1 q h1 h2)⟩) hS.2.2 (by decide) (by decide)
def w_c_proposeZ : List Cond := .code yX11_propose cX11_propose 1 (some .int) :: (HAppend.hAppend (α := List Cond) (β := List Cond) (γ := List Cond) [.fieldLink RX11 30 "SeaLand" "board" "LSeaLand$Board;", .fieldLink RX11 9 "SeaLand" "tape" "[I", .fieldLink RX11 47 "SeaLand" "taped" "I", .code yX4_read cX4_read 4 (some .int), .methodLink RX4 46 Lib.Math.min.name, .static Lib.Math.min.name, .initialized "java/lang/Math", .code Lib.Math.min.name Lib.Math.min.code 2 (some .int), .code yX4_scan cX4_scan 6 none, .fieldLink RX4 11 "SeaLand$Law" "things" "[I", .fieldLink RX4 15 "SeaLand$Law" "begins" "[I", .code yX4_thingEnd cX4_thingEnd 6 (some .int), .code yX4_isLetter cX4_isLetter 1 (some .boolean), .methodLink RX4 81 yX4_isLetter, .static yX4_isLetter, .initialized RX4, .code yX4_isDigit cX4_isDigit 1 (some .boolean), .methodLink RX4 84 yX4_isDigit, .static yX4_isDigit, .methodLink RX4 74 yX4_thingEnd, .static yX4_thingEnd, .code yX4_thingAt cX4_thingAt 3 (some .int), .code yX4_signThing cX4_signThing 1 (some .int), .methodLink RX4 93 yX4_signThing, .static yX4_signThing, .code yX4_numberThing cX4_numberThing 5 (some .int), .methodLink RX4 90 yX4_numberThing, .static yX4_numberThing, .code yX4_wordThing cX4_wordThing 4 (some .int), .code yX4_factThing cX4_factThing 3 (some .int), .code yX4_wordIs cX4_wordIs 5 (some .boolean), .code yJ0_length_8abf5 cJ0_length_8abf5 1 (some .int), .fieldLink RJ0 9 "java/lang/String" "value" "[B", .code yJ0_coder_7d493 cJ0_coder_7d493 1 (some .byte), .fieldLink RJ0 38 "java/lang/String" "COMPACT_STRINGS" "Z", .fieldLink RJ0 15 "java/lang/String" "coder" "B", .methodLink RJ0 335 yJ0_coder_7d493, .instanceMethod yJ0_coder_7d493, .selects RJ0 yJ0_coder_7d493 yJ0_coder_7d493, .initialized RJ0, .methodLink RX4 155 yJ0_length_8abf5, .instanceMethod yJ0_length_8abf5, .selects RJ0 yJ0_length_8abf5 yJ0_length_8abf5, .code yJ0_charAt_5068e cJ0_charAt_5068e 2 (some .char), .code yJ0_isLatin1_aae02 cJ0_isLatin1_aae02 1 (some .boolean), .methodLink RJ0 492 yJ0_isLatin1_aae02, .instanceMethod yJ0_isLatin1_aae02, .selects RJ0 yJ0_isLatin1_aae02 yJ0_isLatin1_aae02, .code yJ1_charAt_3b067 cJ1_charAt_3b067 2 (some .char), .code yJ0_checkIndex_df160 cJ0_checkIndex_df160 2 none, .fieldLink RJ0 1053 "jdk/internal/util/Preconditions" "SIOOBE_FORMATTER" "Ljava/util/function/BiFunction;", .code yJ3_checkIndex_8e157 cJ3_checkIndex_8e157 3 (some .int), .methodLink RJ0 1059 yJ3_checkIndex_8e157, .static yJ3_checkIndex_8e157, .initialized RJ3, .methodLink RJ1 9 yJ0_checkIndex_df160, .static yJ0_checkIndex_df160, .methodLink RJ0 495 yJ1_charAt_3b067, .static yJ1_charAt_3b067, .initialized RJ1, .methodLink RX4 161 yJ0_charAt_5068e, .instanceMethod yJ0_charAt_5068e, .selects RJ0 yJ0_charAt_5068e yJ0_charAt_5068e, .methodLink RX4 105 yX4_wordIs, .static yX4_wordIs, .methodLink RX4 97 yX4_factThing, .static yX4_factThing, .code yX4_lineThing cX4_lineThing 4 (some .int), .methodLink RX4 100 yX4_lineThing, .static yX4_lineThing, .methodLink RX4 87 yX4_wordThing, .static yX4_wordThing, .methodLink RX4 78 yX4_thingAt, .static yX4_thingAt, .methodLink RX4 52 yX4_scan, .instanceMethod yX4_scan, .selects RX4 yX4_scan yX4_scan, .fieldLink RX4 56 "SeaLand$Law" "at" "I", .fieldLink RX4 60 "SeaLand$Law" "lines" "I", .fieldLink RX4 63 "SeaLand$Law" "stepped" "I", .code yX4_readLine cX4_readLine 3 (some .boolean), .code yX4_lineKind cX4_lineKind 1 (some .int), .methodLink RX4 165 yX4_lineKind, .static yX4_lineKind, .fieldLink RX4 18 "SeaLand$Law" "kinds" "[I", .fieldLink RX4 33 "SeaLand$Law" "stepFrom" "[I", .code yX4_take cX4_take 2 (some .boolean), .methodLink RX4 70 yX4_take, .instanceMethod yX4_take, .selects RX4 yX4_take yX4_take, .fieldLink RX4 36 "SeaLand$Law" "stepTo" "[I", .code yX4_readAny cX4_readAny 4 (some .boolean), .code yX4_readAll cX4_readAll 4 (some .boolean), .code yX4_readAtom cX4_readAtom 4 (some .boolean), .code yX4_readComparison cX4_readComparison 3 (some .boolean), .code yX4_readSum cX4_readSum 3 (some .boolean), .code yX4_readPart cX4_readPart 2 (some .boolean), .code yX4_addStep cX4_addStep 2 none, .fieldLink RX4 39 "SeaLand$Law" "steps" "[I", .methodLink RX4 179 yX4_addStep, .instanceMethod yX4_addStep, .selects RX4 yX4_addStep yX4_addStep, .methodLink RX4 192 yX4_readPart, .instanceMethod yX4_readPart, .selects RX4 yX4_readPart yX4_readPart, .methodLink RX4 189 yX4_readSum, .instanceMethod yX4_readSum, .selects RX4 yX4_readSum yX4_readSum, .methodLink RX4 186 yX4_readComparison, .instanceMethod yX4_readComparison, .selects RX4 yX4_readComparison yX4_readComparison, .methodLink RX4 183 yX4_readAtom, .instanceMethod yX4_readAtom, .selects RX4 yX4_readAtom yX4_readAtom, .methodLink RX4 176 yX4_readAll, .instanceMethod yX4_readAll, .selects RX4 yX4_readAll yX4_readAll, .methodLink RX4 173 yX4_readAny, .instanceMethod yX4_readAny, .selects RX4 yX4_readAny yX4_readAny, .fieldLink RX4 21 "SeaLand$Law" "firsts" "[I", .code yX4_takeNumber cX4_takeNumber 4 (some .boolean), .methodLink RX4 168 yX4_takeNumber, .instanceMethod yX4_takeNumber, .selects RX4 yX4_takeNumber yX4_takeNumber, .fieldLink RX4 24 "SeaLand$Law" "seconds" "[I", .fieldLink RX4 27 "SeaLand$Law" "froms" "[I", .fieldLink RX4 30 "SeaLand$Law" "tos" "[I", .constant RX4 172 99999, .methodLink RX4 66 yX4_readLine, .instanceMethod yX4_readLine, .selects RX4 yX4_readLine yX4_readLine, .methodLink RX11 266 yX4_read, .instanceMethod yX4_read, .selects RX4 yX4_read yX4_read, .code yX11_needNumbers cX11_needNumbers 1 none, .classLink RX11 547 "java/lang/IllegalArgumentException", .initialized "java/lang/IllegalArgumentException", .methodLink RX11 62 yX11_needNumbers, .static yX11_needNumbers, .initialized RX11, .code yX0_proposeSpare cX0_proposeSpare 3 (some .int), .fieldLink RX0 45 "SeaLand$Board" "proposed" "LSeaLand$Law;", .fieldLink RX0 48 "SeaLand$Board" "spare" "LSeaLand$Law;", .fieldLink RX0 64 "SeaLand$Board" "voting" "Z", .fieldLink RX0 68 "SeaLand$Board" "yesVotes" "J", .fieldLink RX0 72 "SeaLand$Board" "allVotes" "J", .fieldLink RX0 75 "SeaLand$Board" "settled" "I", .fieldLink RX0 11 "SeaLand$Board" "settlers" "[LSeaLand$Settler;", .methodLink RX11 289 yX0_proposeSpare, .instanceMethod yX0_proposeSpare, .selects RX0 yX0_proposeSpare yX0_proposeSpare, .initialized RX0, .classLink RX11 69 "java/lang/IllegalStateException", .initialized "java/lang/IllegalStateException"] bs2)
set_option maxHeartbeats 4000000 in
set_option maxRecDepth 100000 in
theorem c_proposeZ (l : Launch) (hlt : l.stackTraces = false) (dC : Nat → ClassId) (dI : Nat → Nat → Nat) (kA : Nat → ClassId) (adK adV : Nat → Nat) (G : gT) (H0 : Heap) (nC nS : Int) (o0 : Nat) (bd : Nat) (tn : Int32) (ta : Nat) (sp : Nat) (po : Nat) (vo : Int32) (yv : Int64) (dv9 : Int64) (kn9 : Nat) (sf9 : Nat) (st9 : Nat) (sp9 : Nat) (vc : Nat → Int32) (vK : Nat → Int32) (vF : Nat → Int32) (vE : Nat → Int32) (vS : Nat → Int32) (N : Nat) (fv : Int32) (hT : gH (dC, dI) kA (SHc nC nS) G H0) (hr_o0 : G o0 = some 167) (hm_bd : el H0 o0 (dI 14 3) = some (.ref bd)) (hr_bd : G bd = some 166) (hm_tn : el H0 o0 (dI 14 7) = some (.int tn)) (hm_ta : el H0 o0 (dI 14 0) = some (.ref ta)) (hr_ta : G ta = some 16) (hm_sp : el H0 bd (dI 3 9) = some (.ref sp)) (hr_sp : G sp = some 152) (hm_po : el H0 bd (dI 3 8) = some (.ref po)) (hr_po : G po = some 140) (hm_vo : el H0 bd (dI 3 11) = some (.int vo)) (hm_yv : el H0 bd (dI 3 12) = some (.long yv)) (hm_dv9 : el H0 bd (dI 3 13) = some (.long dv9)) (hm_kn9 : el H0 sp (dI 7 2) = some (.ref kn9)) (hr_kn9 : G kn9 = some 155) (hm_sf9 : el H0 sp (dI 7 7) = some (.ref sf9)) (hr_sf9 : G sf9 = some 160) (hm_st9 : el H0 sp (dI 7 8) = some (.ref st9)) (hr_st9 : G st9 = some 161) (hm_sp9 : el H0 sp (dI 7 9) = some (.ref sp9)) (hr_sp9 : G sp9 = some 162) (hq0 : 0 ≤ tn.toInt ∧ tn.toInt ≤ 400) (hq1 : 0 ≤ vo.toInt ∧ vo.toInt ≤ 1) (hN : tn.toInt = ((N : Nat) : Int)) (hfv : fv = Int32.ofInt (laE (tc vc) N).2) (hc_vc : ct H0 ta 400 vc) (hc_vK : ct H0 kn9 20 vK) (hc_vF : ct H0 sf9 20 vF) (hc_vE : ct H0 st9 20 vE) (hc_vS : ct H0 sp9 400 vS) (hgC : 0 ≤ nC ∧ nC ≤ 40) (hgS : 0 ≤ nS ∧ nS ≤ 60) : vx_Met l yX11_propose w_c_proposeZ ({ frames := 27, cells := 1, slots := 6, locals := 614 }) (va_Pc [.ref o0] (fun U => U.heap = H0 ∧ va_K (dC, dI) vwCl (tyl kA) U ∧ EVC adK adV (gA G H0.size) U U.heap)) (va_Qi (fun (r : Int32) (u : Int32 × Int32 × Int32) => match u with | (f1, t1, v1) => (0 ≤ r.toInt ∧ r.toInt ≤ 20) ∧ ((laE (tc vc) N).2 = -1 ∧ vo.toInt = 0 ∧ f1.toInt = fv.toInt ∧ t1.toInt = 0 ∧ v1.toInt = 1)) (fun (u : Int32 × Int32 × Int32) (t : State) => match u with | (f1, t1, v1) => gH (dC, dI) kA (SHc nC nS) G t.heap ∧ gF (dC, dI) SKc G ([(10, 11), (152, 11), (152, 12), (152, 13), (153, 0), (154, 0), (155, 0), (156, 0), (157, 0), (158, 0), (159, 0), (160, 0), (161, 0), (162, 0), (166, 8), (166, 9), (166, 10), (166, 11), (166, 12), (166, 13), (167, 7)] : List (Nat × Nat)) H0 t.heap ∧ el t.heap bd (dI 3 10) = some (.int f1) ∧ el t.heap o0 (dI 14 7) = some (.int t1) ∧ el t.heap bd (dI 3 11) = some (.int v1) ∧ el t.heap bd (dI 3 8) = some (.ref sp) ∧ el t.heap bd (dI 3 9) = some (.ref po) ∧ el t.heap bd (dI 3 12) = some (.long 0) ∧ el t.heap bd (dI 3 13) = some (.long 0)) (gA G H0.size)) (vx_X (fun _ : Unit => True) (fun E _ t => (E = "java/lang/IllegalArgumentException" ∨ E = "java/lang/IllegalStateException") ∧ ((E = "java/lang/IllegalArgumentException" ∧ (laE (tc vc) N).2 ≠ -1) ∨ (E = "java/lang/IllegalStateException" ∧ ((laE (tc vc) N).2 = -1 ∧ vo.toInt = 1))) ∧ gH (dC, dI) kA (SHc nC nS) G t.heap ∧ gF (dC, dI) SKc G ([(10, 11), (152, 11), (152, 12), (152, 13), (153, 0), (154, 0), (155, 0), (156, 0), (157, 0), (158, 0), (159, 0), (160, 0), (161, 0), (162, 0), (166, 8), (166, 9), (166, 10), (166, 11), (166, 12), (166, 13), (167, 7)] : List (Nat × Nat)) H0 t.heap ∧ el t.heap bd (dI 3 10) = some (.int fv) ∧ el t.heap o0 (dI 14 7) = some (.int 0) ∧ el t.heap bd (dI 3 11) = some (.int vo) ∧ el t.heap bd (dI 3 12) = some (.long yv) ∧ el t.heap bd (dI 3 13) = some (.long dv9) ∧ el t.heap bd (dI 3 8) = some (.ref po) ∧ el t.heap bd (dI 3 9) = some (.ref sp)) (gA G H0.size)) 1 6 (gA G H0.size) := by
  refine vx_ofW (cc := cX11_propose) (maxL := 1) (ret := (some .int)) (by decide) rfl ?_
  intro p e s m args below meth c s₁ B hml hnt hv
  obtain ⟨rfl, hH0, hK, hE⟩ := hv
  have hx := B.exec
  have hb := B.bytes
  have hr := B.returns
  have hts := atoms_spec (ws := w_c_proposeZ) B.pre
  have hown : s.vm.findClass RX11 = some m.cls := findClass_of_methodNamed B.named
  have hlocks := B.notSynchronized
  subst hH0
  generalize hAe : gA G s.heap.size = A at hE ⊢
  have hA : ∀ q : Nat, s.heap.size ≤ q → A q := fun q h => by rw [← hAe]; exact Or.inr h
  have hG := gA_of hAe
  have hS : va_S A s.heap s.heap [] := va_S.rf
  have hF : gF (dC, dI) SKc G ([(10, 11), (152, 11), (152, 12), (152, 13), (153, 0), (154, 0), (155, 0), (156, 0), (157, 0), (158, 0), (159, 0), (160, 0), (161, 0), (162, 0), (166, 8), (166, 9), (166, 10), (166, 11), (166, 12), (166, 13), (167, 7)] : List (Nat × Nat)) s.heap s.heap := gF.rf
  have hl := lv_entry ([.ref o0]) (n := 1) (Nat.le_of_ble_eq_true rfl)
  rw [lg_entry_eq]
  generalize (lg_sl ([.ref o0]) ++ List.replicate (1 - (lg_sl ([.ref o0])).length) Slot.unset).toArray = ls at hl ⊢
  have hl : lv_has ls 1 [(0, .ref o0)] := hl
  refine lv_aload_n hx hb dX11_propose_0 rfl (lv_at hl 0 rfl) ?_
  refine tw_getM (v := .ref bd) hx hb hts bF2_X11 hown hK hT hr_o0 shc_167 rfl 3 (by decide) (ht_at2 hts 0 rfl) (fun _ h9 => h9) hm_bd dX11_propose_1 ?_
  refine lv_aload_n hx hb dX11_propose_4 rfl (lv_at hl 0 rfl) ?_
  refine tw_getM (v := .ref bd) hx hb hts bF2_X11 hown hK hT hr_o0 shc_167 rfl 3 (by decide) (ht_at2 hts 0 rfl) (fun _ h9 => h9) hm_bd dX11_propose_5 ?_
  refine tw_getNM (v := .ref sp) hx hb hts bF2_X0 hown hK hT hr_bd shc_166 rfl 9 (by decide) (hE.nw 24 rfl) (fun _ h9 => h9) hm_sp dX11_propose_8 ?_
  refine lv_aload_n hx hb dX11_propose_11 rfl (lv_at hl 0 rfl) ?_
  refine tw_getM (v := .ref ta) hx hb hts bF2_X11 hown hK hT hr_o0 shc_167 rfl 0 (by decide) (ht_at2 hts 1 rfl) (fun _ h9 => h9) hm_ta dX11_propose_12 ?_
  refine lv_aload_n hx hb dX11_propose_15 rfl (lv_at hl 0 rfl) ?_
  refine tw_getM (v := .int tn) hx hb hts bF2_X11 hown hK hT hr_o0 shc_167 rfl 7 (by decide) (ht_at2 hts 2 rfl) (fun _ h9 => h9) hm_tn dX11_propose_16 ?_
  have hFc := gA_free hG hA hS
  refine va_calli (va_runV (As := [.ref ta, .int tn]) (rest := [.ref bd]) ⟨hx, hb, hml, hown, hts⟩ (c_read l dC dI kA adK adV G s.heap nC nS sp ta tn kn9 sf9 st9 sp9 vc vK vF vE vS N hT hr_ta hr_sp hm_kn9 hr_kn9 hm_sf9 hr_sf9 hm_st9 hr_st9 hm_sp9 hr_sp9 (by have q8 := ti_all tn; omega) hN hc_vc hc_vK hc_vF hc_vE hc_vS (by omega) (by omega)) (cwV 2 hts (goodIn_app (goodIn_r _ [133, 134, 135, 16] rfl (by decide +kernel)) (goodIn_ca (goodIn_r _ [4, 5, 6, 7, 8, 9, 10, 11, 12, 13, 14, 15, 16, 17, 18, 19, 20, 21, 22, 23, 24, 25, 26, 27, 28, 29, 30, 31, 32, 33, 34, 35, 36, 37, 38, 39, 40, 41, 42, 43, 44, 45, 46, 47, 48, 49, 50, 51, 52, 53, 54, 55, 56, 57, 58, 59, 60, 61, 62, 63, 64, 65, 66, 67, 68, 69, 70, 71, 72, 73, 74, 75, 76, 77, 78, 79, 80, 81, 82, 83, 84, 85, 86, 87, 88, 89, 90, 91, 92, 93, 94, 95, 96, 97, 98, 99, 100, 101, 102, 103, 104, 105, 106, 107, 108, 109, 110, 111, 112, 113, 114, 115, 116, 117, 118, 119, 120, 121, 122, 123, 124, 125, 126, 127, 128, 129, 130, 131, 132] rfl (by decide +kernel)) (bs2_in _ _))) rfl rfl rfl (by decide +kernel) ⟨(Nat.le_of_ble_eq_true rfl), (Nat.le_of_ble_eq_true rfl)⟩) ⟨fun a U g mk q => by obtain ⟨q0, q1, qK, qE⟩ := q; exact ⟨q0, q1, va_K.moved (u := U) (U := U.calling g mk a) (Vm.Alike.refl U.vm) qK, EVC.blind g mk a qE⟩, gH_rc hK hT hr_sp shc_152 rfl, fun U hU hW => ⟨rfl, hU, va_K.moved hW.alike hK, hE.call hS hFc hU hW⟩⟩ rfl rfl hl.1 rfl (lv_room (Nat.le_of_ble_eq_true rfl)) dX11_propose_19 ⟨(Nat.le_of_ble_eq_true rfl), (Nat.le_of_ble_eq_true rfl)⟩) hS (fun q _ h => hFc q h) hFc (fun r1 u t H locs ht hvm hw2 hB _ _ hS => ?_)
  obtain ⟨u3, u4, u5, u6, u7⟩ := u
  obtain ⟨hT, hF1, m8, m9, m10, m11, m12⟩ := hB
  rw [ht] at hT hF1 m8 m9 m10 m11 m12
  have m13 := (hF1.fld hr_o0 skc_167 (k := 3) (by decide) (by decide)).trans hm_bd
  have m16 := (hF1.fld hr_bd skc_166 (k := 9) (by decide) (by decide)).trans hm_sp
  have m17 := (hF1.fld hr_bd skc_166 (k := 8) (by decide) (by decide)).trans hm_po
  have m18 := (hF1.fld hr_bd skc_166 (k := 11) (by decide) (by decide)).trans hm_vo
  have m19 := (hF1.fld hr_bd skc_166 (k := 12) (by decide) (by decide)).trans hm_yv
  have m20 := (hF1.fld hr_bd skc_166 (k := 13) (by decide) (by decide)).trans hm_dv9
  have hF := hF.more hF1 (by decide)
  try dsimp only at hw2
  obtain ⟨h30, hf31, hf32⟩ := hw2
  have la9 : r1.toInt = (laE (tc vc) N).2 ∧ (((laE (tc vc) N).2 = -1 ∧ u3.toInt = (laE (tc vc) N).1) ∨ (0 ≤ (laE (tc vc) N).2 ∧ (laE (tc vc) N).1 = -1)) := by rcases hf31 with ⟨a1, a2⟩ | ⟨a1, a2⟩ <;> obtain ⟨e1, e2⟩ := laE_s a2 <;> exact ⟨by omega, by omega⟩
  obtain rfl : fv = r1 := by rw [hfv, ← la9.1]; exact Int32.ofInt_toInt _
  refine tw_putN (v := .int fv) (ty := .int) hx hb hts bF2_X0 tyX0 tyX0_ok nmX0 hown hK hT hG hS hr_bd shc_166 rfl 10 (by decide) (hE.nw 25 rfl) (fun _ h9 => h9) rfl (by decide +kernel) rfl rfl (gl_at rfl (gi_all _)) dX11_propose_22 (fun H locs hT oq m33 oj hS => ?_)
  have hF := hF.put hr_bd skc_166 oq oj (by decide)
  have m34 := (el_kept (oq _ (gne hr_o0 hr_bd (by decide)))).trans m13
  have m37 := (oj 9 (by decide) (by decide)).trans m16
  have m38 := (oj 8 (by decide) (by decide)).trans m17
  have m39 := (oj 11 (by decide) (by decide)).trans m18
  have m40 := (oj 12 (by decide) (by decide)).trans m19
  have m41 := (oj 13 (by decide) (by decide)).trans m20
  have m47 := (el_kept (oq _ (gne hr_sp hr_bd (by decide)))).trans m8
  refine lv_aload_n hx hb dX11_propose_25 rfl (lv_at hl 0 rfl) ?_
  refine lv_iconst (v := 0) hx hb dX11_propose_26 (by decide) ?_
  refine tw_put (v := .int 0) (ty := .int) hx hb hts bF2_X11 tyX11 tyX11_ok nmX11 hown hK hT hG hS hr_o0 shc_167 rfl 7 (by decide) (ht_at2 hts 2 rfl) (fun _ h9 => h9) rfl (by decide +kernel) rfl rfl (gl_at rfl (gi_of (show (0 : Int32).toInt = 0 from (by decide)) (by first | decide | omega) (by first | decide | omega))) dX11_propose_27 (fun H locs hT oq m52 oj hS => ?_)
  have hF := hF.put hr_o0 skc_167 oq oj (by decide)
  have m53 := (oj 3 (by decide) (by decide)).trans m34
  have m55 := (el_kept (oq _ (gne hr_bd hr_o0 (by decide)))).trans m37
  have m56 := (el_kept (oq _ (gne hr_bd hr_o0 (by decide)))).trans m38
  have m57 := (el_kept (oq _ (gne hr_bd hr_o0 (by decide)))).trans m39
  have m58 := (el_kept (oq _ (gne hr_bd hr_o0 (by decide)))).trans m40
  have m59 := (el_kept (oq _ (gne hr_bd hr_o0 (by decide)))).trans m41
  have m65 := (el_kept (oq _ (gne hr_sp hr_o0 (by decide)))).trans m47
  have m70 := (el_kept (oq _ (gne hr_bd hr_o0 (by decide)))).trans m33
  refine lv_aload_n hx hb dX11_propose_30 rfl (lv_at hl 0 rfl) ?_
  refine tw_getM (v := .ref bd) hx hb hts bF2_X11 hown hK hT hr_o0 shc_167 rfl 3 (by decide) (ht_at2 hts 0 rfl) (fun _ h9 => h9) m53 dX11_propose_31 ?_
  refine tw_getNM (v := .int fv) hx hb hts bF2_X0 hown hK hT hr_bd shc_166 rfl 10 (by decide) (hE.nw 25 rfl) (fun _ h9 => h9) m70 dX11_propose_34 ?_
  refine lv_iconst (v := (-1)) hx hb dX11_propose_37 (by decide) ?_
  have t71 : -2147483648 ≤ fv.toInt ∧ fv.toInt ≤ 2147483647 := ti_all fv
  refine lv_icmp_ne (tgt := 45) hx hb dX11_propose_38 (by decide) (fun c72 => ?_) (fun c72 => ?_)
  · have t73 : fv.toInt ≠ (-1) := ti_ne c72 rfl (by decide)
    refine lv_iconst (v := 0) hx hb dX11_propose_45 (by decide) ?_
    have hFc := gA_free hG hA hS
    refine vx_callN (vx_runS (As := [.int 0]) (rest := []) ⟨hx, hb, hml, hown, hts⟩ (c_needNumbers0 l hlt dC dI kA adK adV G H nC nS hT (by omega) (by omega)) (va_cwS 1 hts (goodIn_app (goodIn_r _ [139, 140, 141] rfl (by decide +kernel)) (goodIn_ca (goodIn_r _ [136, 137, 138] rfl (by decide +kernel)) (bs2_in _ _))) rfl rfl rfl (by decide +kernel) ⟨(Nat.le_of_ble_eq_true rfl), (Nat.le_of_ble_eq_true rfl)⟩) ⟨fun a U g mk q => by obtain ⟨q0, q1, qK, qE⟩ := q; exact ⟨q0, q1, va_K.moved (u := U) (U := U.calling g mk a) (Vm.Alike.refl U.vm) qK, EVC.blind g mk a qE⟩, fun U hU hW => ⟨rfl, hU, va_K.moved hW.alike hK, hE.call hS hFc hU hW⟩⟩ rfl rfl hl.1 rfl (lv_room (Nat.le_of_ble_eq_true rfl)) dX11_propose_46 ⟨(Nat.le_of_ble_eq_true rfl), (Nat.le_of_ble_eq_true rfl)⟩) hS hFc (fun q _ h => hFc q h) (fun E ce q9 u t H locs ht hvm _ hw75 _ _ hS hce hcv hcl => ?_)
    obtain ⟨hw75, hTx, hFx⟩ := hw75; rw [ht] at hTx hFx
    exact vx_out (fun x h => (hnt x h).elim) hlocks hce hcv hcl (fun t2 h2 hW => ⟨(), trivial, ⟨((fun h9 => (Or.inl h9)) hw75), (Or.inl ⟨hw75, (by first | omega | exact hxf.elim)⟩), by rw [h2]; exact hTx, by rw [h2]; exact hF.more hFx (by decide), by rw [h2]; exact (hFx.fld hr_bd skc_166 (k := 10) (by decide) (by decide)).trans m70, by rw [h2]; exact (hFx.fld hr_o0 skc_167 (k := 7) (by decide) (by decide)).trans m52, by rw [h2]; exact (hFx.fld hr_bd skc_166 (k := 11) (by decide) (by decide)).trans m57, by rw [h2]; exact (hFx.fld hr_bd skc_166 (k := 12) (by decide) (by decide)).trans m58, by rw [h2]; exact (hFx.fld hr_bd skc_166 (k := 13) (by decide) (by decide)).trans m59, by rw [h2]; exact (hFx.fld hr_bd skc_166 (k := 8) (by decide) (by decide)).trans m56, by rw [h2]; exact (hFx.fld hr_bd skc_166 (k := 9) (by decide) (by decide)).trans m55⟩, hS.F h2⟩) hS.2.2 (by decide) (by decide)
  · have t76 : fv.toInt = (-1) := ti_eq c72 rfl (by decide)
    refine lv_iconst (v := 1) hx hb dX11_propose_41 (by decide) ?_
    refine lv_goto (tgt := 46) hx hb dX11_propose_42 (by decide) ?_
    have hFc := gA_free hG hA hS
    refine vx_callv (vx_runS (As := [.int 1]) (rest := []) ⟨hx, hb, hml, hown, hts⟩ (c_needNumbers1X l hlt dC dI kA adK adV G H nC nS hT (by omega) (by omega)) (va_cwS 1 hts (goodIn_app (goodIn_r _ [139, 140, 141] rfl (by decide +kernel)) (goodIn_ca (goodIn_r _ [136] rfl (by decide +kernel)) (bs2_in _ _))) rfl rfl rfl (by decide +kernel) ⟨(Nat.le_of_ble_eq_true rfl), (Nat.le_of_ble_eq_true rfl)⟩) ⟨fun a U g mk q => by obtain ⟨q0, q1, qK, qE⟩ := q; exact ⟨q0, q1, va_K.moved (u := U) (U := U.calling g mk a) (Vm.Alike.refl U.vm) qK, EVC.blind g mk a qE⟩, fun U hU hW => ⟨rfl, hU, va_K.moved hW.alike hK, hE.call hS hFc hU hW⟩⟩ rfl rfl hl.1 rfl (lv_room (Nat.le_of_ble_eq_true rfl)) dX11_propose_46 ⟨(Nat.le_of_ble_eq_true rfl), (Nat.le_of_ble_eq_true rfl)⟩) hS (fun q _ h => hFc q h) hFc (fun q _ h => hFc q h) (fun E ce q9 u t H locs ht hvm _ hw78 _ _ hS hce hcv hcl => ?_) (fun u t H locs ht hvm hw78 hB _ _ hS => ?_)
    · obtain ⟨hw78, hxf, hTx, hFx⟩ := hw78; rw [ht] at hTx hFx
      exact vx_out (fun x h => (hnt x h).elim) hlocks hce hcv hcl (fun t2 h2 hW => ⟨(), trivial, ⟨((fun h9 => (Or.inl h9)) hw78), (Or.inl ⟨hw78, (by first | omega | exact hxf.elim)⟩), by rw [h2]; exact hTx, by rw [h2]; exact hF.more hFx (by decide), by rw [h2]; exact (hFx.fld hr_bd skc_166 (k := 10) (by decide) (by decide)).trans m70, by rw [h2]; exact (hFx.fld hr_o0 skc_167 (k := 7) (by decide) (by decide)).trans m52, by rw [h2]; exact (hFx.fld hr_bd skc_166 (k := 11) (by decide) (by decide)).trans m57, by rw [h2]; exact (hFx.fld hr_bd skc_166 (k := 12) (by decide) (by decide)).trans m58, by rw [h2]; exact (hFx.fld hr_bd skc_166 (k := 13) (by decide) (by decide)).trans m59, by rw [h2]; exact (hFx.fld hr_bd skc_166 (k := 8) (by decide) (by decide)).trans m56, by rw [h2]; exact (hFx.fld hr_bd skc_166 (k := 9) (by decide) (by decide)).trans m55⟩, hS.F h2⟩) hS.2.2 (by decide) (by decide)
    · obtain ⟨hT, hF1⟩ := hB
      rw [ht] at hT hF1
      have m79 := (hF1.fld hr_o0 skc_167 (k := 3) (by decide) (by decide)).trans m53
      have m81 := (hF1.fld hr_bd skc_166 (k := 9) (by decide) (by decide)).trans m55
      have m82 := (hF1.fld hr_bd skc_166 (k := 8) (by decide) (by decide)).trans m56
      have m83 := (hF1.fld hr_bd skc_166 (k := 11) (by decide) (by decide)).trans m57
      have m84 := (hF1.fld hr_bd skc_166 (k := 12) (by decide) (by decide)).trans m58
      have m85 := (hF1.fld hr_bd skc_166 (k := 13) (by decide) (by decide)).trans m59
      have m91 := (hF1.fld hr_sp skc_152 (k := 11) (by decide) (by decide)).trans m65
      have m96 := (hF1.fld hr_bd skc_166 (k := 10) (by decide) (by decide)).trans m70
      have m97 := (hF1.fld hr_o0 skc_167 (k := 7) (by decide) (by decide)).trans m52
      have hF := hF.more hF1 (by decide)
      try dsimp only at hw78
      refine lv_aload_n hx hb dX11_propose_49 rfl (lv_at hl 0 rfl) ?_
      refine tw_getM (v := .ref bd) hx hb hts bF2_X11 hown hK hT hr_o0 shc_167 rfl 3 (by decide) (ht_at2 hts 0 rfl) (fun _ h9 => h9) m79 dX11_propose_50 ?_
      refine tw_getNM (v := .int vo) hx hb hts bF2_X0 hown hK hT hr_bd shc_166 rfl 11 (by decide) (hE.nw 27 rfl) (fun _ h9 => h9) m83 dX11_propose_53 ?_
      refine lv_if_eq (tgt := 70) hx hb dX11_propose_56 (by decide) (fun c98 => ?_) (fun c98 => ?_)
      · have t99 : vo.toInt = 0 := ti_eq c98 rfl (by decide)
        refine lv_aload_n hx hb dX11_propose_70 rfl (lv_at hl 0 rfl) ?_
        refine tw_getM (v := .ref bd) hx hb hts bF2_X11 hown hK hT hr_o0 shc_167 rfl 3 (by decide) (ht_at2 hts 0 rfl) (fun _ h9 => h9) m79 dX11_propose_71 ?_
        have hFc := gA_free hG hA hS
        refine va_calli (va_runV (As := []) (rest := []) ⟨hx, hb, hml, hown, hts⟩ (c_proposeSpareZ l dC dI kA adK adV G H nC nS bd po sp u3 hT hr_bd m82 hr_po m81 hr_sp m91 (by omega) (by omega)) (cwV 0 hts (goodIn_app (goodIn_r _ [150, 151, 152, 153] rfl (by decide +kernel)) (goodIn_ca (goodIn_r _ [142, 143, 144, 145, 146, 147, 148, 149] rfl (by decide +kernel)) (bs2_in _ _))) rfl rfl rfl (by decide +kernel) ⟨(Nat.le_of_ble_eq_true rfl), (Nat.le_of_ble_eq_true rfl)⟩) ⟨fun a U g mk q => by obtain ⟨q0, q1, qK, qE⟩ := q; exact ⟨q0, q1, va_K.moved (u := U) (U := U.calling g mk a) (Vm.Alike.refl U.vm) qK, EVC.blind g mk a qE⟩, gH_rc hK hT hr_bd shc_166 rfl, fun U hU hW => ⟨rfl, hU, va_K.moved hW.alike hK, hE.call hS hFc hU hW⟩⟩ rfl rfl hl.1 rfl (lv_room (Nat.le_of_ble_eq_true rfl)) dX11_propose_74 ⟨(Nat.le_of_ble_eq_true rfl), (Nat.le_of_ble_eq_true rfl)⟩) hS (fun q _ h => hFc q h) hFc (fun r100 u t H locs ht hvm hw101 hB _ _ hS => ?_)
        obtain ⟨u102, rfl⟩ : ∃ z, z = u := ⟨_, rfl⟩
        obtain ⟨hT, hF1, m103, m104, m105, m106, m107⟩ := hB
        rw [ht] at hT hF1 m103 m104 m105 m106 m107
        have m125 := (hF1.fld hr_bd skc_166 (k := 10) (by decide) (by decide)).trans m96
        have m126 := (hF1.fld hr_o0 skc_167 (k := 7) (by decide) (by decide)).trans m97
        have hF := hF.more hF1 (by decide)
        try dsimp only at hw101
        obtain ⟨hf127, hd128⟩ := hw101
        obtain rfl : u3 = r100 := hd128.symm
        refine W.widen (k := 1) (n := 6) (by decide) (by decide) ?_
        exact vx_ret (W.iret (v := u3) hx hb hr (fun t ht hW => ⟨⟨u3, (fv, (0 : Int32), u102), rfl, (by exact ⟨(by have q8 := ti_all u3; omega), (by have : (0 : Int32).toInt = 0 := (by decide); omega)⟩), by (try dsimp only); rw [ht]; exact ⟨hT, hF, m125, m126, m103, m104, m105, m106, m107⟩⟩, hS.F ht⟩) hS.2.2 dX11_propose_77)
      · have t129 : vo.toInt ≠ 0 := ti_ne c98 rfl (by decide)
        obtain ⟨sa130, hsa130⟩ := hE.str 5 rfl
        exact vx_throwSW (names := ["java/lang/RuntimeException", "java/lang/Exception"]) hx hb hlt hown (by decide +kernel) (by decide +kernel) (ht_at2 hts 153 rfl) (ht_at2 hts 154 rfl) hsa130 (bX2_at3 hts hE) bX_ok3_69 hE.1.1.2.2.1 hE.1.1.2.2.2 hS (by rw [hml]; exact hl.1) dX11_propose_59 dX11_propose_62 dX11_propose_63 dX11_propose_66 dX11_propose_69 (fun x h => (hnt x h).elim) (by decide) (Nat.le_of_ble_eq_true rfl) (Nat.le_of_ble_eq_true rfl) (Nat.le_of_ble_eq_true rfl) hlocks (fun t hW hz hq => ⟨(), trivial, ⟨(Or.inr rfl), (Or.inr (⟨rfl, (by first | omega | exact hxf.elim)⟩)), hT.ext hq, hF.ext hT hq, (el_kept (hq _ (hT.lt hr_bd))).trans m96, (el_kept (hq _ (hT.lt hr_o0))).trans m97, (el_kept (hq _ (hT.lt hr_bd))).trans m83, (el_kept (hq _ (hT.lt hr_bd))).trans m84, (el_kept (hq _ (hT.lt hr_bd))).trans m85, (el_kept (hq _ (hT.lt hr_bd))).trans m82, (el_kept (hq _ (hT.lt hr_bd))).trans m81⟩, Nat.le_trans hS.1 hz, fun q h1 h2 => (hq q (Nat.lt_of_lt_of_le h1 hS.1)).trans (hS.2.1 q h1 h2)⟩) hS.2.2 (by decide) (by decide)
def w_c_needVoteZ : List Cond := .code yX11_needVote cX11_needVote 1 none :: (HAppend.hAppend (α := List Cond) (β := List Cond) (γ := List Cond) [.fieldLink RX11 30 "SeaLand" "board" "LSeaLand$Board;", .classLink RX11 69 "java/lang/IllegalStateException", .initialized "java/lang/IllegalStateException"] bs2)
set_option maxHeartbeats 4000000 in
set_option maxRecDepth 100000 in
theorem c_needVoteZ (l : Launch) (hlt : l.stackTraces = false) (dC : Nat → ClassId) (dI : Nat → Nat → Nat) (kA : Nat → ClassId) (adK adV : Nat → Nat) (G : gT) (H0 : Heap) (nC nS : Int) (o0 : Nat) (bd : Nat) (vo : Int32)  (hT : gH (dC, dI) kA (SHc nC nS) G H0) (hr_o0 : G o0 = some 167) (hm_bd : el H0 o0 (dI 14 3) = some (.ref bd)) (hr_bd : G bd = some 166) (hm_vo : el H0 bd (dI 3 11) = some (.int vo)) (hq0 : 0 ≤ vo.toInt ∧ vo.toInt ≤ 1) (hgC : 0 ≤ nC ∧ nC ≤ 40) (hgS : 0 ≤ nS ∧ nS ≤ 60) : vx_Met l yX11_needVote w_c_needVoteZ ({ frames := 6, cells := 1, slots := 6, locals := 100 }) (va_Pc [.ref o0] (fun U => U.heap = H0 ∧ va_K (dC, dI) vwCl (tyl kA) U ∧ EVC adK adV (gA G H0.size) U U.heap)) (va_Qv (fun (u : Unit) => (vo.toInt = 1)) (fun (_ : Unit) (t : State) => gH (dC, dI) kA (SHc nC nS) G t.heap ∧ gF (dC, dI) SKc G ([] : List (Nat × Nat)) H0 t.heap) (gA G H0.size)) (vx_X (fun _ : Unit => True) (fun E _ t => (E = "java/lang/IllegalStateException") ∧ (vo.toInt = 0) ∧ gH (dC, dI) kA (SHc nC nS) G t.heap ∧ gF (dC, dI) SKc G ([] : List (Nat × Nat)) H0 t.heap) (gA G H0.size)) 1 6 (gA G H0.size) := by
  refine vx_ofW (cc := cX11_needVote) (maxL := 1) (ret := none) (by decide) rfl ?_
  intro p e s m args below meth c s₁ B hml hnt hv
  obtain ⟨rfl, hH0, hK, hE⟩ := hv
  have hx := B.exec
  have hb := B.bytes
  have hr := B.returns
  have hts := atoms_spec (ws := w_c_needVoteZ) B.pre
  have hown : s.vm.findClass RX11 = some m.cls := findClass_of_methodNamed B.named
  have hlocks := B.notSynchronized
  subst hH0
  generalize hAe : gA G s.heap.size = A at hE ⊢
  have hA : ∀ q : Nat, s.heap.size ≤ q → A q := fun q h => by rw [← hAe]; exact Or.inr h
  have hG := gA_of hAe
  have hS : va_S A s.heap s.heap [] := va_S.rf
  have hF : gF (dC, dI) SKc G ([] : List (Nat × Nat)) s.heap s.heap := gF.rf
  have hl := lv_entry ([.ref o0]) (n := 1) (Nat.le_of_ble_eq_true rfl)
  rw [lg_entry_eq]
  generalize (lg_sl ([.ref o0]) ++ List.replicate (1 - (lg_sl ([.ref o0])).length) Slot.unset).toArray = ls at hl ⊢
  have hl : lv_has ls 1 [(0, .ref o0)] := hl
  refine lv_aload_n hx hb dX11_needVote_0 rfl (lv_at hl 0 rfl) ?_
  refine tw_getM (v := .ref bd) hx hb hts bF2_X11 hown hK hT hr_o0 shc_167 rfl 3 (by decide) (ht_at2 hts 0 rfl) (fun _ h9 => h9) hm_bd dX11_needVote_1 ?_
  refine tw_getNM (v := .int vo) hx hb hts bF2_X0 hown hK hT hr_bd shc_166 rfl 11 (by decide) (hE.nw 27 rfl) (fun _ h9 => h9) hm_vo dX11_needVote_4 ?_
  refine lv_if_ne (tgt := 21) hx hb dX11_needVote_7 (by decide) (fun c1 => ?_) (fun c1 => ?_)
  · have t2 : vo.toInt ≠ 0 := ti_ne c1 rfl (by decide)
    refine W.widen (k := 1) (n := 6) (by decide) (by decide) ?_
    exact vx_ret (W.vret hx hb hr (fun t ht hW => ⟨⟨(), rfl, (by exact (by omega)), by (try dsimp only); rw [ht]; exact ⟨hT, hF⟩⟩, hS.F ht⟩) hS.2.2 dX11_needVote_21)
  · have t3 : vo.toInt = 0 := ti_eq c1 rfl (by decide)
    obtain ⟨sa4, hsa4⟩ := hE.str 17 rfl
    exact vx_throwSW (names := ["java/lang/RuntimeException", "java/lang/Exception"]) hx hb hlt hown (by decide +kernel) (by decide +kernel) (ht_at2 hts 1 rfl) (ht_at2 hts 2 rfl) hsa4 (bX2_at3 hts hE) bX_ok3_69 hE.1.1.2.2.1 hE.1.1.2.2.2 hS (by rw [hml]; exact hl.1) dX11_needVote_10 dX11_needVote_13 dX11_needVote_14 dX11_needVote_17 dX11_needVote_20 (fun x h => (hnt x h).elim) (by decide) (Nat.le_of_ble_eq_true rfl) (Nat.le_of_ble_eq_true rfl) (Nat.le_of_ble_eq_true rfl) hlocks (fun t hW hz hq => ⟨(), trivial, ⟨rfl, (by omega), hT.ext hq, hF.ext hT hq⟩, Nat.le_trans hS.1 hz, fun q h1 h2 => (hq q (Nat.lt_of_lt_of_le h1 hS.1)).trans (hS.2.1 q h1 h2)⟩) hS.2.2 (by decide) (by decide)
def w_c_closeVoteN : List Cond := .code yX0_closeVote cX0_closeVote 3 (some .boolean) :: (HAppend.hAppend (α := List Cond) (β := List Cond) (γ := List Cond) [.fieldLink RX0 68 "SeaLand$Board" "yesVotes" "J", .constantLong RX0 92 100, .fieldLink RX0 72 "SeaLand$Board" "allVotes" "J", .fieldLink RX0 41 "SeaLand$Board" "force" "LSeaLand$Law;", .code yX4_lastOf cX4_lastOf 5 (some .int), .fieldLink RX4 60 "SeaLand$Law" "lines" "I", .fieldLink RX4 18 "SeaLand$Law" "kinds" "[I", .fieldLink RX4 21 "SeaLand$Law" "firsts" "[I", .methodLink RX0 94 yX4_lastOf, .instanceMethod yX4_lastOf, .selects RX4 yX4_lastOf yX4_lastOf, .initialized RX4, .fieldLink RX0 64 "SeaLand$Board" "voting" "Z"] bs2)
set_option maxHeartbeats 4000000 in
set_option maxRecDepth 100000 in
theorem c_closeVoteN (l : Launch) (dC : Nat → ClassId) (dI : Nat → Nat → Nat) (kA : Nat → ClassId) (adK adV : Nat → Nat) (G : gT) (H0 : Heap) (nC nS : Int) (o0 : Nat) (yv : Int64) (dv9 : Int64) (fo : Nat)  (hT : gH (dC, dI) kA (SHc nC nS) G H0) (hr_o0 : G o0 = some 166) (hm_yv : el H0 o0 (dI 3 12) = some (.long yv)) (hm_dv9 : el H0 o0 (dI 3 13) = some (.long dv9)) (hm_fo : el H0 o0 (dI 3 7) = some (.ref fo)) (hr_fo : G fo = some 7) (hyv : yv.toInt = 0) (hdv : dv9.toInt = 0) (hgC : 0 ≤ nC ∧ nC ≤ 40) (hgS : 0 ≤ nS ∧ nS ≤ 60) : Met l yX0_closeVote w_c_closeVoteN ({ frames := 1, cells := 0, slots := 0, locals := 24 }) (va_Pc [.ref o0] (fun U => U.heap = H0 ∧ va_K (dC, dI) vwCl (tyl kA) U ∧ EVC adK adV (gA G H0.size) U U.heap)) (va_Qi (fun (r : Int32) (u : Int32) => (0 ≤ r.toInt ∧ r.toInt ≤ 0) ∧ (u.toInt = 0)) (fun (v1 : Int32) (t : State) => gH (dC, dI) kA (SHc nC nS) G t.heap ∧ gF (dC, dI) SKc G ([(166, 11)] : List (Nat × Nat)) H0 t.heap ∧ el t.heap o0 (dI 3 11) = some (.int v1)) (gA G H0.size)) 0 0 (gA G H0.size) := by
  refine Met.ofW (cc := cX0_closeVote) (maxL := 3) (ret := (some .boolean)) (by decide) rfl ?_
  intro p e s m args below meth c s₁ B hml hv
  obtain ⟨rfl, hH0, hK, hE⟩ := hv
  have hx := B.exec
  have hb := B.bytes
  have hr := B.returns
  have hts := atoms_spec (ws := w_c_closeVoteN) B.pre
  have hown : s.vm.findClass RX0 = some m.cls := findClass_of_methodNamed B.named
  have hlocks := B.notSynchronized
  subst hH0
  generalize hAe : gA G s.heap.size = A at hE ⊢
  have hA : ∀ q : Nat, s.heap.size ≤ q → A q := fun q h => by rw [← hAe]; exact Or.inr h
  have hG := gA_of hAe
  have hS : va_S A s.heap s.heap [] := va_S.rf
  have hF : gF (dC, dI) SKc G ([(166, 11)] : List (Nat × Nat)) s.heap s.heap := gF.rf
  have hl := lv_entry ([.ref o0]) (n := 3) (Nat.le_of_ble_eq_true rfl)
  rw [lg_entry_eq]
  generalize (lg_sl ([.ref o0]) ++ List.replicate (3 - (lg_sl ([.ref o0])).length) Slot.unset).toArray = ls at hl ⊢
  have hl : lv_has ls 3 [(0, .ref o0)] := hl
  refine lv_aload_n hx hb dX0_closeVote_0 rfl (lv_at hl 0 rfl) ?_
  refine tw_getM (v := .long yv) hx hb hts bF2_X0 hown hK hT hr_o0 shc_166 rfl 12 (by decide) (ht_at2 hts 0 rfl) (fun _ h9 => h9) hm_yv dX0_closeVote_1 ?_
  refine lv_ldc2 (v := 100) hx hb hown (ht_at2 hts 1 rfl) dX0_closeVote_4 ?_
  refine lv_lmul hx hb dX0_closeVote_7 ?_
  refine lv_topl (fun y1 ey1 => ?_)
  have t2 : y1.toInt = yv.toInt * 100 ∧ -(0 * 100) ≤ y1.toInt ∧ y1.toInt ≤ 0 * 100 := tl_m ey1 rfl (by decide) (A := 0) (B := 100) (by omega) (by omega) (by omega) (by omega) (by decide)
  refine lv_aload_n hx hb dX0_closeVote_8 rfl (lv_at hl 0 rfl) ?_
  refine tw_getM (v := .long dv9) hx hb hts bF2_X0 hown hK hT hr_o0 shc_166 rfl 13 (by decide) (ht_at2 hts 2 rfl) (fun _ h9 => h9) hm_dv9 dX0_closeVote_9 ?_
  refine lv_aload_n hx hb dX0_closeVote_12 rfl (lv_at hl 0 rfl) ?_
  refine tw_getM (v := .ref fo) hx hb hts bF2_X0 hown hK hT hr_o0 shc_166 rfl 7 (by decide) (ht_at2 hts 3 rfl) (fun _ h9 => h9) hm_fo dX0_closeVote_13 ?_
  refine lv_bipush (v := 8) hx hb dX0_closeVote_16 (by decide) ?_
  refine lv_bipush (v := 50) hx hb dX0_closeVote_18 (by decide) ?_
  have hFc := gA_free hG hA hS
  refine va_calli (va_runV (As := [.int 8, .int 50]) (rest := [.long dv9, .long y1]) ⟨hx, hb, hml, hown, hts⟩ (c_lastOf l dC dI kA adK adV G s.heap nC nS fo 8 50 hT hr_fo (by omega) (by omega)) (cwV 2 hts (goodIn_app (goodIn_r _ [9, 10, 11, 12] rfl (by decide +kernel)) (goodIn_ca (goodIn_r _ [5, 6, 7, 8] rfl (by decide +kernel)) (bs2_in _ _))) rfl rfl rfl (by decide +kernel) ⟨(Nat.le_of_ble_eq_true rfl), (Nat.le_of_ble_eq_true rfl)⟩) ⟨fun a U g mk q => by obtain ⟨q0, q1, qK, qE⟩ := q; exact ⟨q0, q1, va_K.moved (u := U) (U := U.calling g mk a) (Vm.Alike.refl U.vm) qK, EVC.blind g mk a qE⟩, gH_rc hK hT hr_fo shc_7 rfl, fun U hU hW => ⟨rfl, hU, va_K.moved hW.alike hK, hE.call hS hFc hU hW⟩⟩ rfl rfl hl.1 rfl (lv_room (Nat.le_of_ble_eq_true rfl)) dX0_closeVote_20 ⟨(Nat.le_of_ble_eq_true rfl), (Nat.le_of_ble_eq_true rfl)⟩) hS (fun q _ h => hFc q h) hFc (fun r3 u t H locs ht hvm hw4 hB _ _ hS => ?_)
  obtain ⟨hT, hF1⟩ := hB
  rw [ht] at hT hF1
  have hF := hF.more hF1 (by decide)
  try dsimp only at hw4
  refine lv_i2l (v := r3.toInt64) hx hb dX0_closeVote_23 rfl ?_
  refine lv_lmul hx hb dX0_closeVote_24 ?_
  refine lv_topl (fun y8 ey8 => ?_)
  have t9 : y8.toInt = dv9.toInt * r3.toInt ∧ -(0 * 2147483648) ≤ y8.toInt ∧ y8.toInt ≤ 0 * 2147483648 := tl_m ey8 rfl ((Int32.toInt_toInt64 _).trans rfl) (A := 0) (B := 2147483648) (by omega) (by omega) (by omega) (by omega) (by decide)
  refine W.lcmp hx hb dX0_closeVote_25 ?_
  refine lv_topi (fun x10 ex10 => ?_)
  have t11 : (y1.toInt < y8.toInt ∧ x10.toInt = -1) ∨ (y1.toInt = y8.toInt ∧ x10.toInt = 0) ∨ (y8.toInt < y1.toInt ∧ x10.toInt = 1) := tl_c ex10 rfl rfl
  refine lv_if_le (tgt := 33) hx hb dX0_closeVote_26 (by decide) (fun c12 => ?_) (fun c12 => ?_)
  · have t13 : x10.toInt ≤ 0 := ti_le c12 rfl (by decide)
    refine lv_iconst (v := 0) hx hb dX0_closeVote_33 (by decide) ?_
    refine lv_istore_n (lv' := [(1, .int 0), (0, .ref o0)]) hx hb dX0_closeVote_34 rfl hl (by decide) rfl (fun ls hl => ?_)
    refine lv_aload_n hx hb dX0_closeVote_35 rfl (lv_at hl 1 rfl) ?_
    refine lv_iconst (v := 0) hx hb dX0_closeVote_36 (by decide) ?_
    refine tw_put (v := .int 0) (ty := .boolean) hx hb hts bF2_X0 tyX0 tyX0_ok nmX0 hown hK hT hG hS hr_o0 shc_166 rfl 11 (by decide) (ht_at2 hts 12 rfl) (fun _ h9 => h9) rfl (by decide +kernel) rfl rfl (gl_at rfl (gi_of (show (0 : Int32).toInt = 0 from (by decide)) (by first | decide | omega) (by first | decide | omega))) dX0_closeVote_37 (fun H locs hT oq m14 oj hS => ?_)
    have hF := hF.put hr_o0 skc_166 oq oj (by decide)
    refine lv_iload_n hx hb dX0_closeVote_40 rfl (lv_at hl 0 rfl) ?_
    refine lv_if_eq (tgt := 62) hx hb dX0_closeVote_41 (by decide) (fun c18 => ?_) (fun c18 => absurd c18 (by decide))
    refine lv_iload_n hx hb dX0_closeVote_62 rfl (lv_at hl 0 rfl) ?_
    exact W.zret (v := 0) hx hb hr (by decide) (fun t ht hW => ⟨⟨0, (0 : Int32), rfl, (by exact ⟨(rg_t (a := 0) (by decide) (by first | decide | omega) (by first | decide | omega)), (by have : (0 : Int32).toInt = 0 := (by decide); omega)⟩), by (try dsimp only); rw [ht]; exact ⟨hT, hF, m14⟩⟩, hS.F ht⟩) hS.2.2 dX0_closeVote_63
  · have t19 : 0 < x10.toInt := ti_nle c12 rfl (by decide)
    exfalso; omega
def w_c_closeVoteG : List Cond := .code yX0_closeVote cX0_closeVote 3 (some .boolean) :: (HAppend.hAppend (α := List Cond) (β := List Cond) (γ := List Cond) [.fieldLink RX0 68 "SeaLand$Board" "yesVotes" "J", .constantLong RX0 92 100, .fieldLink RX0 72 "SeaLand$Board" "allVotes" "J", .fieldLink RX0 41 "SeaLand$Board" "force" "LSeaLand$Law;", .code yX4_lastOf cX4_lastOf 5 (some .int), .fieldLink RX4 60 "SeaLand$Law" "lines" "I", .fieldLink RX4 18 "SeaLand$Law" "kinds" "[I", .fieldLink RX4 21 "SeaLand$Law" "firsts" "[I", .methodLink RX0 94 yX4_lastOf, .instanceMethod yX4_lastOf, .selects RX4 yX4_lastOf yX4_lastOf, .initialized RX4, .fieldLink RX0 64 "SeaLand$Board" "voting" "Z", .fieldLink RX0 45 "SeaLand$Board" "proposed" "LSeaLand$Law;"] bs2)
set_option maxHeartbeats 4000000 in
set_option maxRecDepth 100000 in
theorem c_closeVoteG (l : Launch) (dC : Nat → ClassId) (dI : Nat → Nat → Nat) (kA : Nat → ClassId) (adK adV : Nat → Nat) (G : gT) (H0 : Heap) (nC nS : Int) (o0 : Nat) (fo : Nat) (po : Nat)  (hT : gH (dC, dI) kA (SHc nC nS) G H0) (hr_o0 : G o0 = some 166) (hm_fo : el H0 o0 (dI 3 7) = some (.ref fo)) (hr_fo : G fo = some 7) (hm_po : el H0 o0 (dI 3 8) = some (.ref po)) (hr_po : G po = some 140) (hgC : 0 ≤ nC ∧ nC ≤ 40) (hgS : 0 ≤ nS ∧ nS ≤ 60) : Met l yX0_closeVote w_c_closeVoteG ({ frames := 1, cells := 0, slots := 0, locals := 24 }) (va_Pc [.ref o0] (fun U => U.heap = H0 ∧ va_K (dC, dI) vwCl (tyl kA) U ∧ EVC adK adV (gA G H0.size) U U.heap)) (va_Qi (fun (r : Int32) (u : Int32 × Nat × Nat) => match u with | (v1, fo1, po1) => (0 ≤ r.toInt ∧ r.toInt ≤ 1) ∧ (v1.toInt = 0) ∧ ((fo1 = fo ∧ po1 = po) ∨ (fo1 = po ∧ po1 = fo))) (fun (u : Int32 × Nat × Nat) (t : State) => match u with | (v1, fo1, po1) => gH (dC, dI) kA (SHc nC nS) G t.heap ∧ gF (dC, dI) SKc G ([(166, 7), (166, 8), (166, 11)] : List (Nat × Nat)) H0 t.heap ∧ el t.heap o0 (dI 3 11) = some (.int v1) ∧ el t.heap o0 (dI 3 7) = some (.ref fo1) ∧ el t.heap o0 (dI 3 8) = some (.ref po1)) (gA G H0.size)) 0 0 (gA G H0.size) := by
  refine Met.ofW (cc := cX0_closeVote) (maxL := 3) (ret := (some .boolean)) (by decide) rfl ?_
  intro p e s m args below meth c s₁ B hml hv
  obtain ⟨rfl, hH0, hK, hE⟩ := hv
  have hx := B.exec
  have hb := B.bytes
  have hr := B.returns
  have hts := atoms_spec (ws := w_c_closeVoteG) B.pre
  have hown : s.vm.findClass RX0 = some m.cls := findClass_of_methodNamed B.named
  have hlocks := B.notSynchronized
  subst hH0
  generalize hAe : gA G s.heap.size = A at hE ⊢
  have hA : ∀ q : Nat, s.heap.size ≤ q → A q := fun q h => by rw [← hAe]; exact Or.inr h
  have hG := gA_of hAe
  have hS : va_S A s.heap s.heap [] := va_S.rf
  have hF : gF (dC, dI) SKc G ([(166, 7), (166, 8), (166, 11)] : List (Nat × Nat)) s.heap s.heap := gF.rf
  have hl := lv_entry ([.ref o0]) (n := 3) (Nat.le_of_ble_eq_true rfl)
  rw [lg_entry_eq]
  generalize (lg_sl ([.ref o0]) ++ List.replicate (3 - (lg_sl ([.ref o0])).length) Slot.unset).toArray = ls at hl ⊢
  have hl : lv_has ls 3 [(0, .ref o0)] := hl
  refine lv_aload_n hx hb dX0_closeVote_0 rfl (lv_at hl 0 rfl) ?_
  refine tw_get hx hb hts bF2_X0 hown hK hT hr_o0 shc_166 rfl 12 (by decide) (ht_at2 hts 0 rfl) (fun _ h9 => h9) dX0_closeVote_1 (fun v9 m1 h9 => ?_)
  obtain ⟨y2, rfl⟩ := h9 _ rfl
  refine lv_ldc2 (v := 100) hx hb hown (ht_at2 hts 1 rfl) dX0_closeVote_4 ?_
  refine lv_lmul hx hb dX0_closeVote_7 ?_
  refine lv_topl (fun y3 _ => ?_)
  refine lv_aload_n hx hb dX0_closeVote_8 rfl (lv_at hl 0 rfl) ?_
  refine tw_get hx hb hts bF2_X0 hown hK hT hr_o0 shc_166 rfl 13 (by decide) (ht_at2 hts 2 rfl) (fun _ h9 => h9) dX0_closeVote_9 (fun v9 m4 h9 => ?_)
  obtain ⟨y5, rfl⟩ := h9 _ rfl
  refine lv_aload_n hx hb dX0_closeVote_12 rfl (lv_at hl 0 rfl) ?_
  refine tw_getM (v := .ref fo) hx hb hts bF2_X0 hown hK hT hr_o0 shc_166 rfl 7 (by decide) (ht_at2 hts 3 rfl) (fun _ h9 => h9) hm_fo dX0_closeVote_13 ?_
  refine lv_bipush (v := 8) hx hb dX0_closeVote_16 (by decide) ?_
  refine lv_bipush (v := 50) hx hb dX0_closeVote_18 (by decide) ?_
  have hFc := gA_free hG hA hS
  refine va_calli (va_runV (As := [.int 8, .int 50]) (rest := [.long y5, .long y3]) ⟨hx, hb, hml, hown, hts⟩ (c_lastOf l dC dI kA adK adV G s.heap nC nS fo 8 50 hT hr_fo (by omega) (by omega)) (cwV 2 hts (goodIn_app (goodIn_r _ [9, 10, 11, 12] rfl (by decide +kernel)) (goodIn_ca (goodIn_r _ [5, 6, 7, 8] rfl (by decide +kernel)) (bs2_in _ _))) rfl rfl rfl (by decide +kernel) ⟨(Nat.le_of_ble_eq_true rfl), (Nat.le_of_ble_eq_true rfl)⟩) ⟨fun a U g mk q => by obtain ⟨q0, q1, qK, qE⟩ := q; exact ⟨q0, q1, va_K.moved (u := U) (U := U.calling g mk a) (Vm.Alike.refl U.vm) qK, EVC.blind g mk a qE⟩, gH_rc hK hT hr_fo shc_7 rfl, fun U hU hW => ⟨rfl, hU, va_K.moved hW.alike hK, hE.call hS hFc hU hW⟩⟩ rfl rfl hl.1 rfl (lv_room (Nat.le_of_ble_eq_true rfl)) dX0_closeVote_20 ⟨(Nat.le_of_ble_eq_true rfl), (Nat.le_of_ble_eq_true rfl)⟩) hS (fun q _ h => hFc q h) hFc (fun r6 u t H locs ht hvm hw7 hB _ _ hS => ?_)
  obtain ⟨hT, hF1⟩ := hB
  rw [ht] at hT hF1
  have m8 := (hF1.fld hr_o0 skc_166 (k := 7) (by decide) (by decide)).trans hm_fo
  have m9 := (hF1.fld hr_o0 skc_166 (k := 8) (by decide) (by decide)).trans hm_po
  have hF := hF.more hF1 (by decide)
  try dsimp only at hw7
  refine lv_i2l (v := r6.toInt64) hx hb dX0_closeVote_23 rfl ?_
  refine lv_lmul hx hb dX0_closeVote_24 ?_
  refine lv_topl (fun y12 _ => ?_)
  refine W.lcmp hx hb dX0_closeVote_25 ?_
  refine lv_topi (fun x13 _ => ?_)
  have t14 : -2147483648 ≤ x13.toInt ∧ x13.toInt ≤ 2147483647 := ti_all x13
  refine lv_if_le (tgt := 33) hx hb dX0_closeVote_26 (by decide) (fun c15 => ?_) (fun c15 => ?_)
  · have t16 : x13.toInt ≤ 0 := ti_le c15 rfl (by decide)
    refine lv_iconst (v := 0) hx hb dX0_closeVote_33 (by decide) ?_
    refine lv_istore_n (lv' := [(1, .int 0), (0, .ref o0)]) hx hb dX0_closeVote_34 rfl hl (by decide) rfl (fun ls hl => ?_)
    refine lv_aload_n hx hb dX0_closeVote_35 rfl (lv_at hl 1 rfl) ?_
    refine lv_iconst (v := 0) hx hb dX0_closeVote_36 (by decide) ?_
    refine tw_put (v := .int 0) (ty := .boolean) hx hb hts bF2_X0 tyX0 tyX0_ok nmX0 hown hK hT hG hS hr_o0 shc_166 rfl 11 (by decide) (ht_at2 hts 12 rfl) (fun _ h9 => h9) rfl (by decide +kernel) rfl rfl (gl_at rfl (gi_of (show (0 : Int32).toInt = 0 from (by decide)) (by first | decide | omega) (by first | decide | omega))) dX0_closeVote_37 (fun H locs hT oq m17 oj hS => ?_)
    have hF := hF.put hr_o0 skc_166 oq oj (by decide)
    have m18 := (oj 7 (by decide) (by decide)).trans m8
    have m19 := (oj 8 (by decide) (by decide)).trans m9
    refine lv_iload_n hx hb dX0_closeVote_40 rfl (lv_at hl 0 rfl) ?_
    refine lv_if_eq (tgt := 62) hx hb dX0_closeVote_41 (by decide) (fun c22 => ?_) (fun c22 => absurd c22 (by decide))
    refine lv_iload_n hx hb dX0_closeVote_62 rfl (lv_at hl 0 rfl) ?_
    exact W.zret (v := 0) hx hb hr (by decide) (fun t ht hW => ⟨⟨0, ((0 : Int32), fo, po), rfl, (by exact ⟨(rg_t (a := 0) (by decide) (by first | decide | omega) (by first | decide | omega)), (by have : (0 : Int32).toInt = 0 := (by decide); omega), (Or.inl ⟨rfl, rfl⟩)⟩), by (try dsimp only); rw [ht]; exact ⟨hT, hF, m17, m18, m19⟩⟩, hS.F ht⟩) hS.2.2 dX0_closeVote_63
  · have t23 : 0 < x13.toInt := ti_nle c15 rfl (by decide)
    refine lv_iconst (v := 1) hx hb dX0_closeVote_29 (by decide) ?_
    refine lv_goto (tgt := 34) hx hb dX0_closeVote_30 (by decide) ?_
    refine lv_istore_n (lv' := [(1, .int 1), (0, .ref o0)]) hx hb dX0_closeVote_34 rfl hl (by decide) rfl (fun ls hl => ?_)
    refine lv_aload_n hx hb dX0_closeVote_35 rfl (lv_at hl 1 rfl) ?_
    refine lv_iconst (v := 0) hx hb dX0_closeVote_36 (by decide) ?_
    refine tw_put (v := .int 0) (ty := .boolean) hx hb hts bF2_X0 tyX0 tyX0_ok nmX0 hown hK hT hG hS hr_o0 shc_166 rfl 11 (by decide) (ht_at2 hts 12 rfl) (fun _ h9 => h9) rfl (by decide +kernel) rfl rfl (gl_at rfl (gi_of (show (0 : Int32).toInt = 0 from (by decide)) (by first | decide | omega) (by first | decide | omega))) dX0_closeVote_37 (fun H locs hT oq m24 oj hS => ?_)
    have hF := hF.put hr_o0 skc_166 oq oj (by decide)
    have m25 := (oj 7 (by decide) (by decide)).trans m8
    have m26 := (oj 8 (by decide) (by decide)).trans m9
    refine lv_iload_n hx hb dX0_closeVote_40 rfl (lv_at hl 0 rfl) ?_
    refine lv_if_eq (tgt := 62) hx hb dX0_closeVote_41 (by decide) (fun c29 => absurd c29 (by decide)) (fun c29 => ?_)
    refine lv_aload_n hx hb dX0_closeVote_44 rfl (lv_at hl 1 rfl) ?_
    refine tw_getM (v := .ref fo) hx hb hts bF2_X0 hown hK hT hr_o0 shc_166 rfl 7 (by decide) (ht_at2 hts 3 rfl) (fun _ h9 => h9) m25 dX0_closeVote_45 ?_
    refine lv_astore_n (lv' := [(2, .ref fo), (1, .int 1), (0, .ref o0)]) hx hb dX0_closeVote_48 rfl hl (by decide) rfl (fun ls hl => ?_)
    refine lv_aload_n hx hb dX0_closeVote_49 rfl (lv_at hl 2 rfl) ?_
    refine lv_aload_n hx hb dX0_closeVote_50 rfl (lv_at hl 2 rfl) ?_
    refine tw_getM (v := .ref po) hx hb hts bF2_X0 hown hK hT hr_o0 shc_166 rfl 8 (by decide) (ht_at2 hts 13 rfl) (fun _ h9 => h9) m26 dX0_closeVote_51 ?_
    refine tw_put (v := .ref po) (ty := (.object "SeaLand$Law")) hx hb hts bF2_X0 tyX0 tyX0_ok nmX0 hown hK hT hG hS hr_o0 shc_166 rfl 7 (by decide) (ht_at2 hts 3 rfl) (fun _ h9 => h9) rfl (by decide +kernel) rfl rfl (gl_at rfl ⟨_, rfl, Or.inr (Or.inl hr_po)⟩) dX0_closeVote_54 (fun H locs hT oq m30 oj hS => ?_)
    have hF := hF.put hr_o0 skc_166 oq oj (by decide)
    have m34 := (oj 11 (by decide) (by decide)).trans m24
    refine lv_aload_n hx hb dX0_closeVote_57 rfl (lv_at hl 2 rfl) ?_
    refine lv_aload_n hx hb dX0_closeVote_58 rfl (lv_at hl 0 rfl) ?_
    refine tw_put (v := .ref fo) (ty := (.object "SeaLand$Law")) hx hb hts bF2_X0 tyX0 tyX0_ok nmX0 hown hK hT hG hS hr_o0 shc_166 rfl 8 (by decide) (ht_at2 hts 13 rfl) (fun _ h9 => h9) rfl (by decide +kernel) rfl rfl (gl_at rfl ⟨_, rfl, Or.inl hr_fo⟩) dX0_closeVote_59 (fun H locs hT oq m35 oj hS => ?_)
    have hF := hF.put hr_o0 skc_166 oq oj (by decide)
    have m38 := (oj 11 (by decide) (by decide)).trans m34
    have m39 := (oj 7 (by decide) (by decide)).trans m30
    refine lv_iload_n hx hb dX0_closeVote_62 rfl (lv_at hl 1 rfl) ?_
    exact W.zret (v := 1) hx hb hr (by decide) (fun t ht hW => ⟨⟨1, ((0 : Int32), po, fo), rfl, (by exact ⟨(rg_t (a := 1) (by decide) (by first | decide | omega) (by first | decide | omega)), (by have : (0 : Int32).toInt = 0 := (by decide); omega), (Or.inr ⟨rfl, rfl⟩)⟩), by (try dsimp only); rw [ht]; exact ⟨hT, hF, m38, m39, m35⟩⟩, hS.F ht⟩) hS.2.2 dX0_closeVote_63
def w_c_closeZN : List Cond := .code yX11_close cX11_close 1 (some .boolean) :: (HAppend.hAppend (α := List Cond) (β := List Cond) (γ := List Cond) [.code yX11_needVote cX11_needVote 1 none, .fieldLink RX11 30 "SeaLand" "board" "LSeaLand$Board;", .classLink RX11 69 "java/lang/IllegalStateException", .initialized "java/lang/IllegalStateException", .methodLink RX11 296 yX11_needVote, .instanceMethod yX11_needVote, .selects RX11 yX11_needVote yX11_needVote, .initialized RX11, .code yX0_closeVote cX0_closeVote 3 (some .boolean), .fieldLink RX0 68 "SeaLand$Board" "yesVotes" "J", .constantLong RX0 92 100, .fieldLink RX0 72 "SeaLand$Board" "allVotes" "J", .fieldLink RX0 41 "SeaLand$Board" "force" "LSeaLand$Law;", .code yX4_lastOf cX4_lastOf 5 (some .int), .fieldLink RX4 60 "SeaLand$Law" "lines" "I", .fieldLink RX4 18 "SeaLand$Law" "kinds" "[I", .fieldLink RX4 21 "SeaLand$Law" "firsts" "[I", .methodLink RX0 94 yX4_lastOf, .instanceMethod yX4_lastOf, .selects RX4 yX4_lastOf yX4_lastOf, .initialized RX4, .fieldLink RX0 64 "SeaLand$Board" "voting" "Z", .methodLink RX11 303 yX0_closeVote, .instanceMethod yX0_closeVote, .selects RX0 yX0_closeVote yX0_closeVote, .initialized RX0] bs2)
set_option maxHeartbeats 4000000 in
set_option maxRecDepth 100000 in
theorem c_closeZN (l : Launch) (hlt : l.stackTraces = false) (dC : Nat → ClassId) (dI : Nat → Nat → Nat) (kA : Nat → ClassId) (adK adV : Nat → Nat) (G : gT) (H0 : Heap) (nC nS : Int) (o0 : Nat) (bd : Nat) (vo : Int32) (yv : Int64) (dv9 : Int64) (fo : Nat)  (hT : gH (dC, dI) kA (SHc nC nS) G H0) (hr_o0 : G o0 = some 167) (hm_bd : el H0 o0 (dI 14 3) = some (.ref bd)) (hr_bd : G bd = some 166) (hm_vo : el H0 bd (dI 3 11) = some (.int vo)) (hm_yv : el H0 bd (dI 3 12) = some (.long yv)) (hm_dv9 : el H0 bd (dI 3 13) = some (.long dv9)) (hm_fo : el H0 bd (dI 3 7) = some (.ref fo)) (hr_fo : G fo = some 7) (hq0 : 0 ≤ vo.toInt ∧ vo.toInt ≤ 1) (hyv : yv.toInt = 0) (hdv : dv9.toInt = 0) (hgC : 0 ≤ nC ∧ nC ≤ 40) (hgS : 0 ≤ nS ∧ nS ≤ 60) : vx_Met l yX11_close w_c_closeZN ({ frames := 7, cells := 1, slots := 6, locals := 120 }) (va_Pc [.ref o0] (fun U => U.heap = H0 ∧ va_K (dC, dI) vwCl (tyl kA) U ∧ EVC adK adV (gA G H0.size) U U.heap)) (va_Qi (fun (r : Int32) (u : Int32) => (0 ≤ r.toInt ∧ r.toInt ≤ 0) ∧ (vo.toInt = 1 ∧ u.toInt = 0)) (fun (v1 : Int32) (t : State) => gH (dC, dI) kA (SHc nC nS) G t.heap ∧ gF (dC, dI) SKc G ([(166, 11)] : List (Nat × Nat)) H0 t.heap ∧ el t.heap bd (dI 3 11) = some (.int v1)) (gA G H0.size)) (vx_X (fun _ : Unit => True) (fun E _ t => (E = "java/lang/IllegalStateException") ∧ ((E = "java/lang/IllegalStateException" ∧ vo.toInt = 0)) ∧ gH (dC, dI) kA (SHc nC nS) G t.heap ∧ gF (dC, dI) SKc G ([(166, 11)] : List (Nat × Nat)) H0 t.heap ∧ (gF (dC, dI) SKc G ([] : List (Nat × Nat)) H0 t.heap)) (gA G H0.size)) 1 6 (gA G H0.size) := by
  refine vx_ofW (cc := cX11_close) (maxL := 1) (ret := (some .boolean)) (by decide) rfl ?_
  intro p e s m args below meth c s₁ B hml hnt hv
  obtain ⟨rfl, hH0, hK, hE⟩ := hv
  have hx := B.exec
  have hb := B.bytes
  have hr := B.returns
  have hts := atoms_spec (ws := w_c_closeZN) B.pre
  have hown : s.vm.findClass RX11 = some m.cls := findClass_of_methodNamed B.named
  have hlocks := B.notSynchronized
  subst hH0
  generalize hAe : gA G s.heap.size = A at hE ⊢
  have hA : ∀ q : Nat, s.heap.size ≤ q → A q := fun q h => by rw [← hAe]; exact Or.inr h
  have hG := gA_of hAe
  have hS : va_S A s.heap s.heap [] := va_S.rf
  have hF : gF (dC, dI) SKc G ([(166, 11)] : List (Nat × Nat)) s.heap s.heap := gF.rf
  have hl := lv_entry ([.ref o0]) (n := 1) (Nat.le_of_ble_eq_true rfl)
  rw [lg_entry_eq]
  generalize (lg_sl ([.ref o0]) ++ List.replicate (1 - (lg_sl ([.ref o0])).length) Slot.unset).toArray = ls at hl ⊢
  have hl : lv_has ls 1 [(0, .ref o0)] := hl
  have hF2 : gF (dC, dI) SKc G ([] : List (Nat × Nat)) s.heap s.heap := gF.rf
  refine lv_aload_n hx hb dX11_close_0 rfl (lv_at hl 0 rfl) ?_
  have hFc := gA_free hG hA hS
  refine vx_callv (vx_runV (As := []) (rest := []) ⟨hx, hb, hml, hown, hts⟩ (c_needVoteZ l hlt dC dI kA adK adV G s.heap nC nS o0 bd vo hT hr_o0 hm_bd hr_bd hm_vo (by have q8 := ti_all vo; omega) (by omega) (by omega)) (cwV 0 hts (goodIn_app (goodIn_r _ [5, 6, 7, 8] rfl (by decide +kernel)) (goodIn_ca (goodIn_r _ [1, 2, 3, 4] rfl (by decide +kernel)) (bs2_in _ _))) rfl rfl rfl (by decide +kernel) ⟨(Nat.le_of_ble_eq_true rfl), (Nat.le_of_ble_eq_true rfl)⟩) ⟨fun a U g mk q => by obtain ⟨q0, q1, qK, qE⟩ := q; exact ⟨q0, q1, va_K.moved (u := U) (U := U.calling g mk a) (Vm.Alike.refl U.vm) qK, EVC.blind g mk a qE⟩, gH_rc hK hT hr_o0 shc_167 rfl, fun U hU hW => ⟨rfl, hU, va_K.moved hW.alike hK, hE.call hS hFc hU hW⟩⟩ rfl rfl hl.1 rfl (lv_room (Nat.le_of_ble_eq_true rfl)) dX11_close_1 ⟨(Nat.le_of_ble_eq_true rfl), (Nat.le_of_ble_eq_true rfl)⟩) hS (fun q _ h => hFc q h) hFc (fun q _ h => hFc q h) (fun E ce q9 u t H locs ht hvm _ hw2 _ _ hS hce hcv hcl => ?_) (fun u t H locs ht hvm hw2 hB _ _ hS => ?_)
  · obtain ⟨hw2, hxf, hTx, hFx⟩ := hw2; rw [ht] at hTx hFx
    exact vx_out (fun x h => (hnt x h).elim) hlocks hce hcv hcl (fun t2 h2 hW => ⟨(), trivial, ⟨((fun h9 => h9) hw2), (⟨hw2, (by first | omega | exact hxf.elim)⟩), by rw [h2]; exact hTx, by rw [h2]; exact hF.more hFx (by decide), by rw [h2]; exact hF2.more hFx (by decide)⟩, hS.F h2⟩) hS.2.2 (by decide) (by decide)
  · obtain ⟨hT, hF1⟩ := hB
    rw [ht] at hT hF1
    have m3 := (hF1.fld hr_o0 skc_167 (k := 3) (by decide) (by decide)).trans hm_bd
    have m5 := (hF1.fld hr_bd skc_166 (k := 12) (by decide) (by decide)).trans hm_yv
    have m6 := (hF1.fld hr_bd skc_166 (k := 13) (by decide) (by decide)).trans hm_dv9
    have m7 := (hF1.fld hr_bd skc_166 (k := 7) (by decide) (by decide)).trans hm_fo
    have hF := hF.more hF1 (by decide)
    have hF2 := hF2.more hF1 (by decide)
    try dsimp only at hw2
    have hf8 := hw2
    refine lv_aload_n hx hb dX11_close_4 rfl (lv_at hl 0 rfl) ?_
    refine tw_getM (v := .ref bd) hx hb hts bF2_X11 hown hK hT hr_o0 shc_167 rfl 3 (by decide) (ht_at2 hts 1 rfl) (fun _ h9 => h9) m3 dX11_close_5 ?_
    have hFc := gA_free hG hA hS
    refine va_calli (va_runV (As := []) (rest := []) ⟨hx, hb, hml, hown, hts⟩ (c_closeVoteN l dC dI kA adK adV G H nC nS bd yv dv9 fo hT hr_bd m5 m6 m7 hr_fo hyv hdv (by omega) (by omega)) (cwV 0 hts (goodIn_app (goodIn_r _ [23, 24, 25, 26] rfl (by decide +kernel)) (goodIn_ca (goodIn_r _ [9, 10, 11, 12, 13, 14, 15, 16, 17, 18, 19, 20, 21, 22] rfl (by decide +kernel)) (bs2_in _ _))) rfl rfl rfl (by decide +kernel) ⟨(Nat.le_of_ble_eq_true rfl), (Nat.le_of_ble_eq_true rfl)⟩) ⟨fun a U g mk q => by obtain ⟨q0, q1, qK, qE⟩ := q; exact ⟨q0, q1, va_K.moved (u := U) (U := U.calling g mk a) (Vm.Alike.refl U.vm) qK, EVC.blind g mk a qE⟩, gH_rc hK hT hr_bd shc_166 rfl, fun U hU hW => ⟨rfl, hU, va_K.moved hW.alike hK, hE.call hS hFc hU hW⟩⟩ rfl rfl hl.1 rfl (lv_room (Nat.le_of_ble_eq_true rfl)) dX11_close_8 ⟨(Nat.le_of_ble_eq_true rfl), (Nat.le_of_ble_eq_true rfl)⟩) hS (fun q _ h => hFc q h) hFc (fun r9 u t H locs ht hvm hw10 hB _ _ hS => ?_)
    obtain ⟨u11, rfl⟩ : ∃ z, z = u := ⟨_, rfl⟩
    obtain ⟨hT, hF1, m12⟩ := hB
    rw [ht] at hT hF1 m12
    have hF := hF.more hF1 (by decide)
    try dsimp only at hw10
    obtain ⟨h18, hf19⟩ := hw10
    exact vx_ret (W.zret (v := r9) hx hb hr (nar_b (by have q8 := ti_all r9; omega)) (fun t ht hW => ⟨⟨r9, u11, rfl, (by exact ⟨(by have q8 := ti_all r9; omega), (by omega)⟩), by (try dsimp only); rw [ht]; exact ⟨hT, hF, m12⟩⟩, hS.F ht⟩) hS.2.2 dX11_close_11)
def w_c_closeZG : List Cond := .code yX11_close cX11_close 1 (some .boolean) :: (HAppend.hAppend (α := List Cond) (β := List Cond) (γ := List Cond) [.code yX11_needVote cX11_needVote 1 none, .fieldLink RX11 30 "SeaLand" "board" "LSeaLand$Board;", .classLink RX11 69 "java/lang/IllegalStateException", .initialized "java/lang/IllegalStateException", .methodLink RX11 296 yX11_needVote, .instanceMethod yX11_needVote, .selects RX11 yX11_needVote yX11_needVote, .initialized RX11, .code yX0_closeVote cX0_closeVote 3 (some .boolean), .fieldLink RX0 68 "SeaLand$Board" "yesVotes" "J", .constantLong RX0 92 100, .fieldLink RX0 72 "SeaLand$Board" "allVotes" "J", .fieldLink RX0 41 "SeaLand$Board" "force" "LSeaLand$Law;", .code yX4_lastOf cX4_lastOf 5 (some .int), .fieldLink RX4 60 "SeaLand$Law" "lines" "I", .fieldLink RX4 18 "SeaLand$Law" "kinds" "[I", .fieldLink RX4 21 "SeaLand$Law" "firsts" "[I", .methodLink RX0 94 yX4_lastOf, .instanceMethod yX4_lastOf, .selects RX4 yX4_lastOf yX4_lastOf, .initialized RX4, .fieldLink RX0 64 "SeaLand$Board" "voting" "Z", .fieldLink RX0 45 "SeaLand$Board" "proposed" "LSeaLand$Law;", .methodLink RX11 303 yX0_closeVote, .instanceMethod yX0_closeVote, .selects RX0 yX0_closeVote yX0_closeVote, .initialized RX0] bs2)
set_option maxHeartbeats 4000000 in
set_option maxRecDepth 100000 in
theorem c_closeZG (l : Launch) (hlt : l.stackTraces = false) (dC : Nat → ClassId) (dI : Nat → Nat → Nat) (kA : Nat → ClassId) (adK adV : Nat → Nat) (G : gT) (H0 : Heap) (nC nS : Int) (o0 : Nat) (bd : Nat) (vo : Int32) (fo : Nat) (po : Nat)  (hT : gH (dC, dI) kA (SHc nC nS) G H0) (hr_o0 : G o0 = some 167) (hm_bd : el H0 o0 (dI 14 3) = some (.ref bd)) (hr_bd : G bd = some 166) (hm_vo : el H0 bd (dI 3 11) = some (.int vo)) (hm_fo : el H0 bd (dI 3 7) = some (.ref fo)) (hr_fo : G fo = some 7) (hm_po : el H0 bd (dI 3 8) = some (.ref po)) (hr_po : G po = some 140) (hq0 : 0 ≤ vo.toInt ∧ vo.toInt ≤ 1) (hgC : 0 ≤ nC ∧ nC ≤ 40) (hgS : 0 ≤ nS ∧ nS ≤ 60) : vx_Met l yX11_close w_c_closeZG ({ frames := 7, cells := 1, slots := 6, locals := 120 }) (va_Pc [.ref o0] (fun U => U.heap = H0 ∧ va_K (dC, dI) vwCl (tyl kA) U ∧ EVC adK adV (gA G H0.size) U U.heap)) (va_Qi (fun (r : Int32) (u : Int32 × Nat × Nat) => match u with | (v1, fo1, po1) => (0 ≤ r.toInt ∧ r.toInt ≤ 1) ∧ (vo.toInt = 1 ∧ v1.toInt = 0) ∧ ((fo1 = fo ∧ po1 = po) ∨ (fo1 = po ∧ po1 = fo))) (fun (u : Int32 × Nat × Nat) (t : State) => match u with | (v1, fo1, po1) => gH (dC, dI) kA (SHc nC nS) G t.heap ∧ gF (dC, dI) SKc G ([(166, 7), (166, 8), (166, 11)] : List (Nat × Nat)) H0 t.heap ∧ el t.heap bd (dI 3 11) = some (.int v1) ∧ el t.heap bd (dI 3 7) = some (.ref fo1) ∧ el t.heap bd (dI 3 8) = some (.ref po1)) (gA G H0.size)) (vx_X (fun _ : Unit => True) (fun E _ t => (E = "java/lang/IllegalStateException") ∧ ((E = "java/lang/IllegalStateException" ∧ vo.toInt = 0)) ∧ gH (dC, dI) kA (SHc nC nS) G t.heap ∧ gF (dC, dI) SKc G ([(166, 7), (166, 8), (166, 11)] : List (Nat × Nat)) H0 t.heap ∧ (gF (dC, dI) SKc G ([] : List (Nat × Nat)) H0 t.heap)) (gA G H0.size)) 1 6 (gA G H0.size) := by
  refine vx_ofW (cc := cX11_close) (maxL := 1) (ret := (some .boolean)) (by decide) rfl ?_
  intro p e s m args below meth c s₁ B hml hnt hv
  obtain ⟨rfl, hH0, hK, hE⟩ := hv
  have hx := B.exec
  have hb := B.bytes
  have hr := B.returns
  have hts := atoms_spec (ws := w_c_closeZG) B.pre
  have hown : s.vm.findClass RX11 = some m.cls := findClass_of_methodNamed B.named
  have hlocks := B.notSynchronized
  subst hH0
  generalize hAe : gA G s.heap.size = A at hE ⊢
  have hA : ∀ q : Nat, s.heap.size ≤ q → A q := fun q h => by rw [← hAe]; exact Or.inr h
  have hG := gA_of hAe
  have hS : va_S A s.heap s.heap [] := va_S.rf
  have hF : gF (dC, dI) SKc G ([(166, 7), (166, 8), (166, 11)] : List (Nat × Nat)) s.heap s.heap := gF.rf
  have hl := lv_entry ([.ref o0]) (n := 1) (Nat.le_of_ble_eq_true rfl)
  rw [lg_entry_eq]
  generalize (lg_sl ([.ref o0]) ++ List.replicate (1 - (lg_sl ([.ref o0])).length) Slot.unset).toArray = ls at hl ⊢
  have hl : lv_has ls 1 [(0, .ref o0)] := hl
  have hF2 : gF (dC, dI) SKc G ([] : List (Nat × Nat)) s.heap s.heap := gF.rf
  refine lv_aload_n hx hb dX11_close_0 rfl (lv_at hl 0 rfl) ?_
  have hFc := gA_free hG hA hS
  refine vx_callv (vx_runV (As := []) (rest := []) ⟨hx, hb, hml, hown, hts⟩ (c_needVoteZ l hlt dC dI kA adK adV G s.heap nC nS o0 bd vo hT hr_o0 hm_bd hr_bd hm_vo (by have q8 := ti_all vo; omega) (by omega) (by omega)) (cwV 0 hts (goodIn_app (goodIn_r _ [5, 6, 7, 8] rfl (by decide +kernel)) (goodIn_ca (goodIn_r _ [1, 2, 3, 4] rfl (by decide +kernel)) (bs2_in _ _))) rfl rfl rfl (by decide +kernel) ⟨(Nat.le_of_ble_eq_true rfl), (Nat.le_of_ble_eq_true rfl)⟩) ⟨fun a U g mk q => by obtain ⟨q0, q1, qK, qE⟩ := q; exact ⟨q0, q1, va_K.moved (u := U) (U := U.calling g mk a) (Vm.Alike.refl U.vm) qK, EVC.blind g mk a qE⟩, gH_rc hK hT hr_o0 shc_167 rfl, fun U hU hW => ⟨rfl, hU, va_K.moved hW.alike hK, hE.call hS hFc hU hW⟩⟩ rfl rfl hl.1 rfl (lv_room (Nat.le_of_ble_eq_true rfl)) dX11_close_1 ⟨(Nat.le_of_ble_eq_true rfl), (Nat.le_of_ble_eq_true rfl)⟩) hS (fun q _ h => hFc q h) hFc (fun q _ h => hFc q h) (fun E ce q9 u t H locs ht hvm _ hw2 _ _ hS hce hcv hcl => ?_) (fun u t H locs ht hvm hw2 hB _ _ hS => ?_)
  · obtain ⟨hw2, hxf, hTx, hFx⟩ := hw2; rw [ht] at hTx hFx
    exact vx_out (fun x h => (hnt x h).elim) hlocks hce hcv hcl (fun t2 h2 hW => ⟨(), trivial, ⟨((fun h9 => h9) hw2), (⟨hw2, (by first | omega | exact hxf.elim)⟩), by rw [h2]; exact hTx, by rw [h2]; exact hF.more hFx (by decide), by rw [h2]; exact hF2.more hFx (by decide)⟩, hS.F h2⟩) hS.2.2 (by decide) (by decide)
  · obtain ⟨hT, hF1⟩ := hB
    rw [ht] at hT hF1
    have m3 := (hF1.fld hr_o0 skc_167 (k := 3) (by decide) (by decide)).trans hm_bd
    have m5 := (hF1.fld hr_bd skc_166 (k := 7) (by decide) (by decide)).trans hm_fo
    have m6 := (hF1.fld hr_bd skc_166 (k := 8) (by decide) (by decide)).trans hm_po
    have hF := hF.more hF1 (by decide)
    have hF2 := hF2.more hF1 (by decide)
    try dsimp only at hw2
    have hf7 := hw2
    refine lv_aload_n hx hb dX11_close_4 rfl (lv_at hl 0 rfl) ?_
    refine tw_getM (v := .ref bd) hx hb hts bF2_X11 hown hK hT hr_o0 shc_167 rfl 3 (by decide) (ht_at2 hts 1 rfl) (fun _ h9 => h9) m3 dX11_close_5 ?_
    have hFc := gA_free hG hA hS
    refine va_calli (va_runV (As := []) (rest := []) ⟨hx, hb, hml, hown, hts⟩ (c_closeVoteG l dC dI kA adK adV G H nC nS bd fo po hT hr_bd m5 hr_fo m6 hr_po (by omega) (by omega)) (cwV 0 hts (goodIn_app (goodIn_r _ [24, 25, 26, 27] rfl (by decide +kernel)) (goodIn_ca (goodIn_r _ [9, 10, 11, 12, 13, 14, 15, 16, 17, 18, 19, 20, 21, 22, 23] rfl (by decide +kernel)) (bs2_in _ _))) rfl rfl rfl (by decide +kernel) ⟨(Nat.le_of_ble_eq_true rfl), (Nat.le_of_ble_eq_true rfl)⟩) ⟨fun a U g mk q => by obtain ⟨q0, q1, qK, qE⟩ := q; exact ⟨q0, q1, va_K.moved (u := U) (U := U.calling g mk a) (Vm.Alike.refl U.vm) qK, EVC.blind g mk a qE⟩, gH_rc hK hT hr_bd shc_166 rfl, fun U hU hW => ⟨rfl, hU, va_K.moved hW.alike hK, hE.call hS hFc hU hW⟩⟩ rfl rfl hl.1 rfl (lv_room (Nat.le_of_ble_eq_true rfl)) dX11_close_8 ⟨(Nat.le_of_ble_eq_true rfl), (Nat.le_of_ble_eq_true rfl)⟩) hS (fun q _ h => hFc q h) hFc (fun r8 u t H locs ht hvm hw9 hB _ _ hS => ?_)
    obtain ⟨u10, u11, u12⟩ := u
    obtain ⟨hT, hF1, m13, m14, m15⟩ := hB
    rw [ht] at hT hF1 m13 m14 m15
    have hF := hF.more hF1 (by decide)
    try dsimp only at hw9
    obtain ⟨h20, hf21, hf22⟩ := hw9
    exact vx_ret (W.zret (v := r8) hx hb hr (nar_b (by have q8 := ti_all r8; omega)) (fun t ht hW => ⟨⟨r8, (u10, u11, u12), rfl, (by exact ⟨(by have q8 := ti_all r8; omega), (by omega), hf22⟩), by (try dsimp only); rw [ht]; exact ⟨hT, hF, m13, m14, m15⟩⟩, hS.F ht⟩) hS.2.2 dX11_close_11)

