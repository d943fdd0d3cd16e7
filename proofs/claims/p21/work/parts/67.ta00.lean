/-- a settler as told, without a farm -/
def zSf (dI : Nat → Nat → Nat) (H : Heap) (a : Nat) (x1 x2 x3 x4 x5 x6 : Int32) : Prop := el H a (dI 10 7) = some (.int (-1)) ∧ el H a (dI 10 8) = some (.int 0) ∧ el H a (dI 10 9) = some (.int 0) ∧ el H a (dI 10 0) = some (.int x1) ∧ el H a (dI 10 1) = some (.int x2) ∧ el H a (dI 10 6) = some (.int x3) ∧ el H a (dI 10 2) = some (.int x4) ∧ el H a (dI 10 3) = some (.int x5) ∧ el H a (dI 10 4) = some (.int x6)
/-- tags given anew: f says which, or none -/
def zmp (f : Nat → Option Nat) (G : gT) : gT := fun a => (G a).bind f
theorem zmp_s {f : Nat → Option Nat} {G : gT} {a t u : Nat} (h : G a = some t) (hf : f t = some u) : zmp f G a = some u := by
  unfold zmp
  rw [h]
  exact hf
theorem zmp_e {f : Nat → Option Nat} {G : gT} {a u : Nat} (h : zmp f G a = some u) : ∃ t, G a = some t ∧ f t = some u := by
  unfold zmp at h
  cases q : G a with
  | none => rw [q] at h; cases h
  | some t => rw [q] at h; exact ⟨t, rfl, h⟩
def rK (f : Nat → Option Nat) (k1 k2 : gT → Value → Prop) : Prop := ∀ (G : gT) (v : Value), k1 G v → k2 (zmp f G) v
def rE (f : Nat → Option Nat) (E1 E2 : gE) : Prop := ∀ (G : gT) (i : Nat) (v : Value), E1 G i v → E2 (zmp f G) i v
def rS (f : Nat → Option Nat) : gS → gS → Prop
  | .inl o, .inl p => o.1 = p.1 ∧ o.2.1 = p.2.1 ∧ rE f o.2.2 p.2.2
  | .inr o, .inr p => o.1 = p.1 ∧ o.2.1 = p.2.1 ∧ rE f o.2.2 p.2.2
  | _, _ => False
theorem rK_I {f : Nat → Option Nat} {lo hi : Int} : rK f (gI lo hi) (gI lo hi) := fun _ _ h => h
theorem rK_W {f : Nat → Option Nat} {lo hi l2 h2 : Int} (h1 : l2 ≤ lo) (h3 : hi ≤ h2) : rK f (gI lo hi) (gI l2 h2) := fun _ _ ⟨i, e, q1, q2⟩ => ⟨i, e, Int.le_trans h1 q1, Int.le_trans q2 h3⟩
theorem rK_J {f : Nat → Option Nat} : rK f gJ gJ := fun _ _ h => h
theorem rK_R {f : Nat → Option Nat} {t u : Nat} (h : f t = some u) : rK f (gR t) (gR u) := fun _ _ ⟨a, h1, h2⟩ => ⟨a, h1, zmp_s h2 h⟩
theorem rK_N {f : Nat → Option Nat} {t u : Nat} (h : f t = some u) : rK f (gN t) (gN u) := fun _ _ ⟨r, h1, h2⟩ => ⟨r, h1, fun a ha => zmp_s (h2 a ha) h⟩
theorem rK_0 {f : Nat → Option Nat} {t u v w : Nat} (h : f t = some u) : rK f (gR t) (gD u v w) := fun _ _ ⟨a, h1, h2⟩ => ⟨a, h1, Or.inl (zmp_s h2 h)⟩
theorem rK_1 {f : Nat → Option Nat} {t u v w : Nat} (h : f t = some v) : rK f (gR t) (gD u v w) := fun _ _ ⟨a, h1, h2⟩ => ⟨a, h1, Or.inr (Or.inl (zmp_s h2 h))⟩
theorem rK_2 {f : Nat → Option Nat} {t u v w : Nat} (h : f t = some w) : rK f (gR t) (gD u v w) := fun _ _ ⟨a, h1, h2⟩ => ⟨a, h1, Or.inr (Or.inr (zmp_s h2 h))⟩
theorem rE_nil {f : Nat → Option Nat} : rE f (gl []) (gl []) := fun _ _ _ _ k h => by cases h
theorem rE_cons {f : Nat → Option Nat} {k1 k2 : gT → Value → Prop} {l1 l2 : List (gT → Value → Prop)} (hk : rK f k1 k2) (hE : rE f (gl l1) (gl l2)) : rE f (gl (k1 :: l1)) (gl (k2 :: l2)) := fun G i v h => by
  cases i with
  | zero =>
    intro k e
    cases e
    exact hk G v (h k1 rfl)
  | succ i => exact fun k e => hE G i v (fun k' e' => h k' e') k e
theorem rE_ga {f : Nat → Option Nat} {k1 k2 : gT → Value → Prop} (hk : rK f k1 k2) : rE f (ga k1) (ga k2) := fun G _ v h => hk G v h
theorem rE_gnb {f : Nat → Option Nat} {n : Int} {t u : Nat} (h : f t = some u) : rE f (gnb n t) (gnb n u) := fun G _ v hv => ⟨fun hi => rK_R h G v (hv.1 hi), rK_N h G v hv.2⟩
theorem gC_mp {D : va_G} {kA : Nat → ClassId} {f : Nat → Option Nat} {sh sh1 : gS} {G : gT} {a : Nat} {H : Heap} (h : gC D kA sh G a H) (hs : rS f sh sh1) : gC D kA sh1 (zmp f G) a H := by
  cases sh with
  | inl o =>
    cases sh1 with
    | inl p =>
      obtain ⟨V, h1, h2⟩ := h
      obtain ⟨c, N, E⟩ := o
      obtain ⟨c1, N1, E1⟩ := p
      obtain ⟨e1, e2, e3⟩ := hs
      have e1 : c = c1 := e1
      have e2 : N = N1 := e2
      subst e1 e2
      exact ⟨V, h1, fun k hk => e3 G k (V k) (h2 k hk)⟩
    | inr p => exact absurd hs (fun z => z)
  | inr o =>
    cases sh1 with
    | inl p => exact absurd hs (fun z => z)
    | inr p =>
      obtain ⟨V, h1, h2⟩ := h
      obtain ⟨c, N, E⟩ := o
      obtain ⟨c1, N1, E1⟩ := p
      obtain ⟨e1, e2, e3⟩ := hs
      have e1 : c = c1 := e1
      have e2 : N = N1 := e2
      subst e1 e2
      exact ⟨V, h1, fun k hk => e3 G k (V k) (h2 k hk)⟩
theorem zmp_2 {f g : Nat → Option Nat} {G : gT} {a t u : Nat} (h : G a = some t) (e : (f t).bind g = some u) : zmp g (zmp f G) a = some u := by
  unfold zmp
  rw [h]
  exact e
theorem zmp_b {f g : Nat → Option Nat} {G : gT} {a t v w : Nat} (h : zmp g (zmp f G) a = some t) (hg : ∀ u, g u = some t → u = v) (hf : ∀ u, f u = some v → u = w) : G a = some w := by
  obtain ⟨u, h1, h2⟩ := zmp_e h
  obtain ⟨z, h3, h4⟩ := zmp_e h1
  rw [hg u h2] at h4
  rw [← hf z h4]
  exact h3
theorem gC_re {D : va_G} {kA : Nat → ClassId} {G G1 : gT} {H : Heap} {q ci N : Nat} {E E1 : gE} (h : gC D kA (.inl (ci, N, E)) G q H) (hk : ∀ k v, k < N → el H q (D.2 ci k) = some v → E G k v → E1 G1 k v) : gC D kA (.inl (ci, N, E1)) G1 q H := by
  obtain ⟨V, ⟨cell, q1, q2, q3, q4⟩, h2⟩ := h
  refine ⟨V, ⟨cell, q1, q2, q3, q4⟩, fun k hk' => hk k (V k) hk' ?_ (h2 k hk')⟩
  unfold el
  rw [q1]
  exact q4 k hk'
theorem gH_mp {D : va_G} {kA : Nat → ClassId} {f : Nat → Option Nat} {Sg : Nat → gS} {G : gT} {H : Heap} (hT : gH D kA Sg G H) (hs : ∀ t u, f t = some u → rS f (Sg t) (Sg u)) : gH D kA Sg (zmp f G) H := by
  intro a u ha
  obtain ⟨t, h1, h2⟩ := zmp_e ha
  exact gC_mp (hT a t h1) (hs t u h2)
theorem gH_un {D : va_G} {kA : Nat → ClassId} {f : Nat → Option Nat} {Sg : Nat → gS} {G : gT} {H : Heap} {b c : Nat} (hT : gH D kA Sg G H) (hs : ∀ t u, t ≠ b → t ≠ c → f t = some u → rS f (Sg t) (Sg u)) (hb : ∀ a u, G a = some b → f b = some u → gC D kA (Sg u) (zmp f G) a H) (hc : ∀ a u, G a = some c → f c = some u → gC D kA (Sg u) (zmp f G) a H) : gH D kA Sg (zmp f G) H := by
  intro a u ha
  obtain ⟨t, h1, h2⟩ := zmp_e ha
  by_cases e : t = b
  · subst e; exact hb a u h1 h2
  · by_cases e2 : t = c
    · subst e2; exact hc a u h1 h2
    · exact gC_mp (hT a t h1) (hs t u e e2 h2)
/-- a table of tags -/
def zt (L : List (Nat × Nat)) (t : Nat) : Option Nat := (L.find? (fun z => z.1 == t)).map Prod.snd
theorem zt_m {L : List (Nat × Nat)} {t u : Nat} (h : zt L t = some u) : (t, u) ∈ L := by
  unfold zt at h
  cases q : L.find? (fun z => z.1 == t) with
  | none => rw [q] at h; cases h
  | some z =>
    rw [q] at h
    have e : z.2 = u := Option.some.inj h
    have e1 : z.1 = t := by have := List.find?_some q; exact eq_of_beq this
    have := List.mem_of_find?_eq_some q
    rw [← e, ← e1]
    exact this
def ZL_s1 : List (Nat × Nat) := ((3, 166) :: (4, 4) :: (5, 5) :: (6, 6) :: (7, 7) :: (8, 8) :: (9, 9) :: (10, 10) :: (11, 11) :: (12, 12) :: (13, 13) :: (14, 167) :: (16, 16) :: (17, 17) :: (18, 18) :: (19, 19) :: (20, 20) :: (21, 21) :: (22, 22) :: (23, 23) :: (24, 24) :: (25, 25) :: (26, 26) :: (27, 27) :: (28, 28) :: (29, 29) :: (30, 30) :: (31, 31) :: (32, 32) :: (33, 33) :: (34, 34) :: (35, 35) :: (36, 36) :: (37, 37) :: (38, 38) :: (39, 39) :: (40, 40) :: (41, 41) :: (42, 42) :: (43, 43) :: (44, 44) :: (45, 45) :: (46, 46) :: (47, 47) :: (48, 48) :: (49, 49) :: (50, 50) :: (51, 51) :: (52, 52) :: (53, 53) :: (54, 54) :: (55, 55) :: (56, 56) :: (57, 57) :: (58, 58) :: (59, 59) :: (60, 60) :: (61, 61) :: (62, 62) :: (63, 63) :: (64, 64) :: (65, 65) :: (66, 66) :: (67, 67) :: (68, 68) :: (69, 69) :: (70, 70) :: (71, 71) :: (72, 72) :: (73, 73) :: (74, 74) :: (75, 75) :: (76, 76) :: (77, 77) :: (78, 78) :: (79, 79) :: (80, 80) :: (81, 81) :: (82, 82) :: (83, 83) :: (84, 84) :: (85, 85) :: (86, 86) :: (87, 87) :: (88, 88) :: (89, 89) :: (90, 90) :: (91, 91) :: (92, 92) :: (93, 93) :: (94, 94) :: (98, 98) :: (140, 140) :: (141, 141) :: (142, 142) :: (143, 143) :: (144, 144) :: (145, 145) :: (146, 146) :: (147, 147) :: (148, 148) :: (149, 149) :: (150, 150) :: (151, 151) :: (152, 152) :: (153, 153) :: (154, 154) :: (155, 155) :: (156, 156) :: (157, 157) :: (158, 158) :: (159, 159) :: (160, 160) :: (161, 161) :: (162, 162) :: (163, 163) :: [])
def zt_s1 : Nat → Option Nat := zt ZL_s1
theorem rs_s1_3 {nC nS : Int} (hgC : 0 ≤ nC ∧ nC ≤ 40) (hgS : 0 ≤ nS ∧ nS ≤ 60) : rS zt_s1 (SHc nC nS 3) (SHc nC nS 166) := ⟨rfl, rfl, (rE_cons (rK_R (by decide)) (rE_cons (rK_R (by decide)) (rE_cons (rK_R (by decide)) (rE_cons (rK_R (by decide)) (rE_cons (rK_R (by decide)) (rE_cons (rK_R (by decide)) (rE_cons (rK_R (by decide)) (rE_cons (rK_0 (by decide)) (rE_cons (rK_1 (by decide)) (rE_cons (rK_2 (by decide)) (rE_cons rK_I (rE_cons rK_I (rE_cons rK_J (rE_cons rK_J (rE_cons (rK_W hgS.1 hgS.2) (rE_cons rK_I (rE_cons rK_I (rE_cons rK_I rE_nil))))))))))))))))))⟩
theorem rs_s1_4 {nC nS : Int} : rS zt_s1 (SHc nC nS 4) (SHc nC nS 4) := ⟨rfl, rfl, (rE_cons rK_I (rE_cons rK_I (rE_cons rK_I (rE_cons rK_I (rE_cons rK_I (rE_cons rK_I (rE_cons rK_I (rE_cons rK_I rE_nil))))))))⟩
theorem rs_s1_5 {nC nS : Int} : rS zt_s1 (SHc nC nS 5) (SHc nC nS 5) := ⟨rfl, rfl, (rE_cons (rK_R (by decide)) (rE_cons (rK_R (by decide)) (rE_cons (rK_R (by decide)) (rE_cons (rK_R (by decide)) (rE_cons (rK_R (by decide)) (rE_cons (rK_R (by decide)) (rE_cons (rK_R (by decide)) (rE_cons (rK_R (by decide)) (rE_cons (rK_R (by decide)) (rE_cons (rK_R (by decide)) (rE_cons (rK_R (by decide)) (rE_cons rK_I (rE_cons rK_I (rE_cons rK_I (rE_cons rK_I rE_nil)))))))))))))))⟩
theorem rs_s1_6 {nC nS : Int} : rS zt_s1 (SHc nC nS 6) (SHc nC nS 6) := ⟨rfl, rfl, (rE_cons (rK_R (by decide)) (rE_cons (rK_R (by decide)) (rE_cons (rK_R (by decide)) (rE_cons rK_I (rE_cons rK_I rE_nil)))))⟩
theorem rs_s1_7 {nC nS : Int} : rS zt_s1 (SHc nC nS 7) (SHc nC nS 7) := ⟨rfl, rfl, (rE_cons (rK_R (by decide)) (rE_cons (rK_R (by decide)) (rE_cons (rK_R (by decide)) (rE_cons (rK_R (by decide)) (rE_cons (rK_R (by decide)) (rE_cons (rK_R (by decide)) (rE_cons (rK_R (by decide)) (rE_cons (rK_R (by decide)) (rE_cons (rK_R (by decide)) (rE_cons (rK_R (by decide)) (rE_cons (rK_R (by decide)) (rE_cons rK_I (rE_cons rK_I (rE_cons rK_I rE_nil))))))))))))))⟩
theorem rs_s1_8 {nC nS : Int} : rS zt_s1 (SHc nC nS 8) (SHc nC nS 8) := ⟨rfl, rfl, (rE_cons (rK_R (by decide)) (rE_cons (rK_R (by decide)) (rE_cons (rK_R (by decide)) (rE_cons (rK_R (by decide)) (rE_cons (rK_R (by decide)) (rE_cons (rK_R (by decide)) (rE_cons (rK_R (by decide)) (rE_cons (rK_R (by decide)) (rE_cons (rK_R (by decide)) (rE_cons (rK_R (by decide)) (rE_cons (rK_R (by decide)) (rE_cons (rK_R (by decide)) (rE_cons rK_I (rE_cons rK_I (rE_cons rK_I (rE_cons rK_I (rE_cons rK_I rE_nil)))))))))))))))))⟩
theorem rs_s1_9 {nC nS : Int} : rS zt_s1 (SHc nC nS 9) (SHc nC nS 9) := ⟨rfl, rfl, (rE_cons (rK_R (by decide)) (rE_cons (rK_R (by decide)) (rE_cons rK_I (rE_cons rK_I rE_nil))))⟩
theorem rs_s1_10 {nC nS : Int} : rS zt_s1 (SHc nC nS 10) (SHc nC nS 10) := ⟨rfl, rfl, (rE_cons rK_I (rE_cons rK_I (rE_cons rK_I (rE_cons rK_I (rE_cons rK_I (rE_cons rK_I (rE_cons rK_I (rE_cons rK_I (rE_cons rK_I (rE_cons rK_I (rE_cons rK_I (rE_cons rK_I rE_nil))))))))))))⟩
theorem rs_s1_11 {nC nS : Int} : rS zt_s1 (SHc nC nS 11) (SHc nC nS 11) := ⟨rfl, rfl, (rE_cons (rK_R (by decide)) (rE_cons (rK_R (by decide)) (rE_cons (rK_R (by decide)) (rE_cons (rK_R (by decide)) (rE_cons (rK_R (by decide)) (rE_cons (rK_R (by decide)) (rE_cons rK_I rE_nil)))))))⟩
theorem rs_s1_12 {nC nS : Int} : rS zt_s1 (SHc nC nS 12) (SHc nC nS 12) := ⟨rfl, rfl, (rE_cons (rK_R (by decide)) (rE_cons (rK_R (by decide)) (rE_cons rK_I rE_nil)))⟩
theorem rs_s1_13 {nC nS : Int} : rS zt_s1 (SHc nC nS 13) (SHc nC nS 13) := ⟨rfl, rfl, (rE_cons (rK_R (by decide)) (rE_cons (rK_R (by decide)) (rE_cons rK_I (rE_cons rK_I (rE_cons rK_I (rE_cons rK_I (rE_cons rK_I (rE_cons rK_I (rE_cons rK_I (rE_cons rK_I (rE_cons rK_I (rE_cons rK_I rE_nil))))))))))))⟩
theorem rs_s1_14 {nC nS : Int} (hgC : 0 ≤ nC ∧ nC ≤ 40) (hgS : 0 ≤ nS ∧ nS ≤ 60) : rS zt_s1 (SHc nC nS 14) (SHc nC nS 167) := ⟨rfl, rfl, (rE_cons (rK_R (by decide)) (rE_cons (rK_R (by decide)) (rE_cons (rK_R (by decide)) (rE_cons (rK_R (by decide)) (rE_cons (rK_R (by decide)) (rE_cons (rK_R (by decide)) (rE_cons (rK_N (by decide)) (rE_cons rK_I (rE_cons (rK_W hgC.1 hgC.2) rE_nil)))))))))⟩
theorem rs_s1_16 {nC nS : Int} : rS zt_s1 (SHc nC nS 16) (SHc nC nS 16) := ⟨rfl, rfl, (rE_ga rK_I)⟩
theorem rs_s1_17 {nC nS : Int} : rS zt_s1 (SHc nC nS 17) (SHc nC nS 17) := ⟨rfl, rfl, (rE_gnb (by decide))⟩
theorem rs_s1_18 {nC nS : Int} : rS zt_s1 (SHc nC nS 18) (SHc nC nS 18) := ⟨rfl, rfl, (rE_ga (rK_R (by decide)))⟩
theorem rs_s1_19 {nC nS : Int} : rS zt_s1 (SHc nC nS 19) (SHc nC nS 19) := ⟨rfl, rfl, (rE_ga rK_I)⟩
theorem rs_s1_20 {nC nS : Int} : rS zt_s1 (SHc nC nS 20) (SHc nC nS 20) := ⟨rfl, rfl, (rE_ga rK_I)⟩
theorem rs_s1_21 {nC nS : Int} : rS zt_s1 (SHc nC nS 21) (SHc nC nS 21) := ⟨rfl, rfl, (rE_ga rK_I)⟩
theorem rs_s1_22 {nC nS : Int} : rS zt_s1 (SHc nC nS 22) (SHc nC nS 22) := ⟨rfl, rfl, (rE_ga rK_I)⟩
theorem rs_s1_23 {nC nS : Int} : rS zt_s1 (SHc nC nS 23) (SHc nC nS 23) := ⟨rfl, rfl, (rE_ga rK_I)⟩
theorem rs_s1_24 {nC nS : Int} : rS zt_s1 (SHc nC nS 24) (SHc nC nS 24) := ⟨rfl, rfl, (rE_ga rK_I)⟩
theorem rs_s1_25 {nC nS : Int} : rS zt_s1 (SHc nC nS 25) (SHc nC nS 25) := ⟨rfl, rfl, (rE_ga rK_I)⟩
theorem rs_s1_26 {nC nS : Int} : rS zt_s1 (SHc nC nS 26) (SHc nC nS 26) := ⟨rfl, rfl, (rE_ga rK_I)⟩
theorem rs_s1_27 {nC nS : Int} : rS zt_s1 (SHc nC nS 27) (SHc nC nS 27) := ⟨rfl, rfl, (rE_ga rK_I)⟩
theorem rs_s1_28 {nC nS : Int} : rS zt_s1 (SHc nC nS 28) (SHc nC nS 28) := ⟨rfl, rfl, (rE_ga rK_I)⟩
theorem rs_s1_29 {nC nS : Int} : rS zt_s1 (SHc nC nS 29) (SHc nC nS 29) := ⟨rfl, rfl, (rE_ga rK_I)⟩
theorem rs_s1_30 {nC nS : Int} : rS zt_s1 (SHc nC nS 30) (SHc nC nS 30) := ⟨rfl, rfl, (rE_ga rK_I)⟩
theorem rs_s1_31 {nC nS : Int} : rS zt_s1 (SHc nC nS 31) (SHc nC nS 31) := ⟨rfl, rfl, (rE_ga rK_I)⟩
theorem rs_s1_32 {nC nS : Int} : rS zt_s1 (SHc nC nS 32) (SHc nC nS 32) := ⟨rfl, rfl, (rE_ga rK_I)⟩
theorem rs_s1_33 {nC nS : Int} : rS zt_s1 (SHc nC nS 33) (SHc nC nS 33) := ⟨rfl, rfl, (rE_ga rK_I)⟩
theorem rs_s1_34 {nC nS : Int} : rS zt_s1 (SHc nC nS 34) (SHc nC nS 34) := ⟨rfl, rfl, (rE_ga rK_I)⟩
theorem rs_s1_35 {nC nS : Int} : rS zt_s1 (SHc nC nS 35) (SHc nC nS 35) := ⟨rfl, rfl, (rE_ga rK_I)⟩
theorem rs_s1_36 {nC nS : Int} : rS zt_s1 (SHc nC nS 36) (SHc nC nS 36) := ⟨rfl, rfl, (rE_ga rK_I)⟩
theorem rs_s1_37 {nC nS : Int} : rS zt_s1 (SHc nC nS 37) (SHc nC nS 37) := ⟨rfl, rfl, (rE_ga rK_I)⟩
theorem rs_s1_38 {nC nS : Int} : rS zt_s1 (SHc nC nS 38) (SHc nC nS 38) := ⟨rfl, rfl, (rE_ga rK_I)⟩
theorem rs_s1_39 {nC nS : Int} : rS zt_s1 (SHc nC nS 39) (SHc nC nS 39) := ⟨rfl, rfl, (rE_ga rK_I)⟩
theorem rs_s1_40 {nC nS : Int} : rS zt_s1 (SHc nC nS 40) (SHc nC nS 40) := ⟨rfl, rfl, (rE_ga rK_I)⟩
theorem rs_s1_41 {nC nS : Int} : rS zt_s1 (SHc nC nS 41) (SHc nC nS 41) := ⟨rfl, rfl, (rE_ga rK_I)⟩
theorem rs_s1_42 {nC nS : Int} : rS zt_s1 (SHc nC nS 42) (SHc nC nS 42) := ⟨rfl, rfl, (rE_ga rK_I)⟩
theorem rs_s1_43 {nC nS : Int} : rS zt_s1 (SHc nC nS 43) (SHc nC nS 43) := ⟨rfl, rfl, (rE_ga rK_I)⟩
theorem rs_s1_44 {nC nS : Int} : rS zt_s1 (SHc nC nS 44) (SHc nC nS 44) := ⟨rfl, rfl, (rE_ga rK_I)⟩
theorem rs_s1_45 {nC nS : Int} : rS zt_s1 (SHc nC nS 45) (SHc nC nS 45) := ⟨rfl, rfl, (rE_ga rK_I)⟩
theorem rs_s1_46 {nC nS : Int} : rS zt_s1 (SHc nC nS 46) (SHc nC nS 46) := ⟨rfl, rfl, (rE_ga rK_I)⟩
theorem rs_s1_47 {nC nS : Int} : rS zt_s1 (SHc nC nS 47) (SHc nC nS 47) := ⟨rfl, rfl, (rE_ga rK_I)⟩
theorem rs_s1_48 {nC nS : Int} : rS zt_s1 (SHc nC nS 48) (SHc nC nS 48) := ⟨rfl, rfl, (rE_ga rK_I)⟩
theorem rs_s1_49 {nC nS : Int} : rS zt_s1 (SHc nC nS 49) (SHc nC nS 49) := ⟨rfl, rfl, (rE_ga rK_I)⟩
theorem rs_s1_50 {nC nS : Int} : rS zt_s1 (SHc nC nS 50) (SHc nC nS 50) := ⟨rfl, rfl, (rE_ga rK_J)⟩
theorem rs_s1_51 {nC nS : Int} : rS zt_s1 (SHc nC nS 51) (SHc nC nS 51) := ⟨rfl, rfl, (rE_gnb (by decide))⟩
theorem rs_s1_52 {nC nS : Int} : rS zt_s1 (SHc nC nS 52) (SHc nC nS 52) := ⟨rfl, rfl, (rE_ga rK_I)⟩
theorem rs_s1_53 {nC nS : Int} : rS zt_s1 (SHc nC nS 53) (SHc nC nS 53) := ⟨rfl, rfl, (rE_ga rK_I)⟩
theorem rs_s1_54 {nC nS : Int} : rS zt_s1 (SHc nC nS 54) (SHc nC nS 54) := ⟨rfl, rfl, (rE_ga rK_I)⟩
theorem rs_s1_55 {nC nS : Int} : rS zt_s1 (SHc nC nS 55) (SHc nC nS 55) := ⟨rfl, rfl, (rE_ga rK_I)⟩
theorem rs_s1_56 {nC nS : Int} : rS zt_s1 (SHc nC nS 56) (SHc nC nS 56) := ⟨rfl, rfl, (rE_ga rK_J)⟩
theorem rs_s1_57 {nC nS : Int} : rS zt_s1 (SHc nC nS 57) (SHc nC nS 57) := ⟨rfl, rfl, (rE_ga rK_I)⟩
theorem rs_s1_58 {nC nS : Int} : rS zt_s1 (SHc nC nS 58) (SHc nC nS 58) := ⟨rfl, rfl, (rE_ga rK_I)⟩
theorem rs_s1_59 {nC nS : Int} : rS zt_s1 (SHc nC nS 59) (SHc nC nS 59) := ⟨rfl, rfl, (rE_ga rK_I)⟩
theorem rs_s1_60 {nC nS : Int} : rS zt_s1 (SHc nC nS 60) (SHc nC nS 60) := ⟨rfl, rfl, (rE_ga rK_I)⟩
theorem rs_s1_61 {nC nS : Int} : rS zt_s1 (SHc nC nS 61) (SHc nC nS 61) := ⟨rfl, rfl, (rE_ga rK_I)⟩
theorem rs_s1_62 {nC nS : Int} : rS zt_s1 (SHc nC nS 62) (SHc nC nS 62) := ⟨rfl, rfl, (rE_ga rK_I)⟩
theorem rs_s1_63 {nC nS : Int} : rS zt_s1 (SHc nC nS 63) (SHc nC nS 63) := ⟨rfl, rfl, (rE_ga rK_I)⟩
theorem rs_s1_64 {nC nS : Int} : rS zt_s1 (SHc nC nS 64) (SHc nC nS 64) := ⟨rfl, rfl, (rE_ga rK_I)⟩
theorem rs_s1_65 {nC nS : Int} : rS zt_s1 (SHc nC nS 65) (SHc nC nS 65) := ⟨rfl, rfl, (rE_ga rK_I)⟩
theorem rs_s1_66 {nC nS : Int} : rS zt_s1 (SHc nC nS 66) (SHc nC nS 66) := ⟨rfl, rfl, (rE_ga rK_I)⟩
theorem rs_s1_67 {nC nS : Int} : rS zt_s1 (SHc nC nS 67) (SHc nC nS 67) := ⟨rfl, rfl, (rE_ga rK_I)⟩
theorem rs_s1_68 {nC nS : Int} : rS zt_s1 (SHc nC nS 68) (SHc nC nS 68) := ⟨rfl, rfl, (rE_ga rK_I)⟩
theorem rs_s1_69 {nC nS : Int} : rS zt_s1 (SHc nC nS 69) (SHc nC nS 69) := ⟨rfl, rfl, (rE_ga rK_I)⟩
theorem rs_s1_70 {nC nS : Int} : rS zt_s1 (SHc nC nS 70) (SHc nC nS 70) := ⟨rfl, rfl, (rE_ga (rK_R (by decide)))⟩
theorem rs_s1_71 {nC nS : Int} : rS zt_s1 (SHc nC nS 71) (SHc nC nS 71) := ⟨rfl, rfl, (rE_ga rK_I)⟩
theorem rs_s1_72 {nC nS : Int} : rS zt_s1 (SHc nC nS 72) (SHc nC nS 72) := ⟨rfl, rfl, (rE_ga rK_I)⟩
theorem rs_s1_73 {nC nS : Int} : rS zt_s1 (SHc nC nS 73) (SHc nC nS 73) := ⟨rfl, rfl, (rE_ga rK_I)⟩
theorem rs_s1_74 {nC nS : Int} : rS zt_s1 (SHc nC nS 74) (SHc nC nS 74) := ⟨rfl, rfl, (rE_ga rK_I)⟩
theorem rs_s1_75 {nC nS : Int} : rS zt_s1 (SHc nC nS 75) (SHc nC nS 75) := ⟨rfl, rfl, (rE_ga rK_I)⟩
theorem rs_s1_76 {nC nS : Int} : rS zt_s1 (SHc nC nS 76) (SHc nC nS 76) := ⟨rfl, rfl, (rE_ga rK_I)⟩
theorem rs_s1_77 {nC nS : Int} : rS zt_s1 (SHc nC nS 77) (SHc nC nS 77) := ⟨rfl, rfl, (rE_ga rK_I)⟩
theorem rs_s1_78 {nC nS : Int} : rS zt_s1 (SHc nC nS 78) (SHc nC nS 78) := ⟨rfl, rfl, (rE_ga rK_I)⟩
theorem rs_s1_79 {nC nS : Int} : rS zt_s1 (SHc nC nS 79) (SHc nC nS 79) := ⟨rfl, rfl, (rE_ga rK_I)⟩
theorem rs_s1_80 {nC nS : Int} : rS zt_s1 (SHc nC nS 80) (SHc nC nS 80) := ⟨rfl, rfl, (rE_ga rK_I)⟩
theorem rs_s1_81 {nC nS : Int} : rS zt_s1 (SHc nC nS 81) (SHc nC nS 81) := ⟨rfl, rfl, (rE_ga rK_I)⟩
theorem rs_s1_82 {nC nS : Int} : rS zt_s1 (SHc nC nS 82) (SHc nC nS 82) := ⟨rfl, rfl, (rE_ga rK_I)⟩
theorem rs_s1_83 {nC nS : Int} : rS zt_s1 (SHc nC nS 83) (SHc nC nS 83) := ⟨rfl, rfl, (rE_ga rK_I)⟩
theorem rs_s1_84 {nC nS : Int} : rS zt_s1 (SHc nC nS 84) (SHc nC nS 84) := ⟨rfl, rfl, (rE_ga rK_I)⟩
theorem rs_s1_85 {nC nS : Int} : rS zt_s1 (SHc nC nS 85) (SHc nC nS 85) := ⟨rfl, rfl, (rE_ga rK_I)⟩
theorem rs_s1_86 {nC nS : Int} : rS zt_s1 (SHc nC nS 86) (SHc nC nS 86) := ⟨rfl, rfl, (rE_ga rK_I)⟩
theorem rs_s1_87 {nC nS : Int} : rS zt_s1 (SHc nC nS 87) (SHc nC nS 87) := ⟨rfl, rfl, (rE_ga rK_I)⟩
theorem rs_s1_88 {nC nS : Int} : rS zt_s1 (SHc nC nS 88) (SHc nC nS 88) := ⟨rfl, rfl, (rE_ga rK_I)⟩
theorem rs_s1_89 {nC nS : Int} : rS zt_s1 (SHc nC nS 89) (SHc nC nS 89) := ⟨rfl, rfl, (rE_ga rK_I)⟩
theorem rs_s1_90 {nC nS : Int} : rS zt_s1 (SHc nC nS 90) (SHc nC nS 90) := ⟨rfl, rfl, (rE_cons (rK_R (by decide)) (rE_cons (rK_R (by decide)) (rE_cons (rK_R (by decide)) (rE_cons rK_I (rE_cons rK_I rE_nil)))))⟩
theorem rs_s1_91 {nC nS : Int} : rS zt_s1 (SHc nC nS 91) (SHc nC nS 91) := ⟨rfl, rfl, (rE_cons (rK_R (by decide)) (rE_cons (rK_R (by decide)) (rE_cons (rK_R (by decide)) (rE_cons (rK_R (by decide)) (rE_cons (rK_R (by decide)) (rE_cons (rK_R (by decide)) (rE_cons rK_I rE_nil)))))))⟩
theorem rs_s1_92 {nC nS : Int} : rS zt_s1 (SHc nC nS 92) (SHc nC nS 92) := ⟨rfl, rfl, (rE_cons (rK_R (by decide)) (rE_cons (rK_R (by decide)) (rE_cons rK_I rE_nil)))⟩
theorem rs_s1_93 {nC nS : Int} : rS zt_s1 (SHc nC nS 93) (SHc nC nS 93) := ⟨rfl, rfl, (rE_cons (rK_R (by decide)) (rE_cons (rK_R (by decide)) (rE_cons (rK_R (by decide)) (rE_cons (rK_R (by decide)) (rE_cons (rK_R (by decide)) (rE_cons (rK_R (by decide)) (rE_cons (rK_R (by decide)) (rE_cons (rK_R (by decide)) (rE_cons (rK_R (by decide)) (rE_cons (rK_R (by decide)) (rE_cons (rK_R (by decide)) (rE_cons rK_I (rE_cons rK_I (rE_cons rK_I (rE_cons rK_I rE_nil)))))))))))))))⟩
theorem rs_s1_94 {nC nS : Int} : rS zt_s1 (SHc nC nS 94) (SHc nC nS 94) := ⟨rfl, rfl, (rE_cons (rK_R (by decide)) (rE_cons (rK_R (by decide)) (rE_cons rK_I (rE_cons rK_I (rE_cons rK_I (rE_cons rK_I (rE_cons rK_I (rE_cons rK_I (rE_cons rK_I (rE_cons rK_I (rE_cons rK_I (rE_cons rK_I rE_nil))))))))))))⟩
theorem rs_s1_98 {nC nS : Int} : rS zt_s1 (SHc nC nS 98) (SHc nC nS 98) := ⟨rfl, rfl, (rE_ga rK_J)⟩
theorem rs_s1_140 {nC nS : Int} : rS zt_s1 (SHc nC nS 140) (SHc nC nS 140) := ⟨rfl, rfl, (rE_cons (rK_R (by decide)) (rE_cons (rK_R (by decide)) (rE_cons (rK_R (by decide)) (rE_cons (rK_R (by decide)) (rE_cons (rK_R (by decide)) (rE_cons (rK_R (by decide)) (rE_cons (rK_R (by decide)) (rE_cons (rK_R (by decide)) (rE_cons (rK_R (by decide)) (rE_cons (rK_R (by decide)) (rE_cons (rK_R (by decide)) (rE_cons rK_I (rE_cons rK_I (rE_cons rK_I rE_nil))))))))))))))⟩
theorem rs_s1_141 {nC nS : Int} : rS zt_s1 (SHc nC nS 141) (SHc nC nS 141) := ⟨rfl, rfl, (rE_ga rK_I)⟩
theorem rs_s1_142 {nC nS : Int} : rS zt_s1 (SHc nC nS 142) (SHc nC nS 142) := ⟨rfl, rfl, (rE_ga rK_I)⟩
theorem rs_s1_143 {nC nS : Int} : rS zt_s1 (SHc nC nS 143) (SHc nC nS 143) := ⟨rfl, rfl, (rE_ga rK_I)⟩
theorem rs_s1_144 {nC nS : Int} : rS zt_s1 (SHc nC nS 144) (SHc nC nS 144) := ⟨rfl, rfl, (rE_ga rK_I)⟩
theorem rs_s1_145 {nC nS : Int} : rS zt_s1 (SHc nC nS 145) (SHc nC nS 145) := ⟨rfl, rfl, (rE_ga rK_I)⟩
theorem rs_s1_146 {nC nS : Int} : rS zt_s1 (SHc nC nS 146) (SHc nC nS 146) := ⟨rfl, rfl, (rE_ga rK_I)⟩
theorem rs_s1_147 {nC nS : Int} : rS zt_s1 (SHc nC nS 147) (SHc nC nS 147) := ⟨rfl, rfl, (rE_ga rK_I)⟩
theorem rs_s1_148 {nC nS : Int} : rS zt_s1 (SHc nC nS 148) (SHc nC nS 148) := ⟨rfl, rfl, (rE_ga rK_I)⟩
theorem rs_s1_149 {nC nS : Int} : rS zt_s1 (SHc nC nS 149) (SHc nC nS 149) := ⟨rfl, rfl, (rE_ga rK_I)⟩
theorem rs_s1_150 {nC nS : Int} : rS zt_s1 (SHc nC nS 150) (SHc nC nS 150) := ⟨rfl, rfl, (rE_ga rK_I)⟩
theorem rs_s1_151 {nC nS : Int} : rS zt_s1 (SHc nC nS 151) (SHc nC nS 151) := ⟨rfl, rfl, (rE_ga rK_J)⟩
theorem rs_s1_152 {nC nS : Int} : rS zt_s1 (SHc nC nS 152) (SHc nC nS 152) := ⟨rfl, rfl, (rE_cons (rK_R (by decide)) (rE_cons (rK_R (by decide)) (rE_cons (rK_R (by decide)) (rE_cons (rK_R (by decide)) (rE_cons (rK_R (by decide)) (rE_cons (rK_R (by decide)) (rE_cons (rK_R (by decide)) (rE_cons (rK_R (by decide)) (rE_cons (rK_R (by decide)) (rE_cons (rK_R (by decide)) (rE_cons (rK_R (by decide)) (rE_cons rK_I (rE_cons rK_I (rE_cons rK_I rE_nil))))))))))))))⟩
theorem rs_s1_153 {nC nS : Int} : rS zt_s1 (SHc nC nS 153) (SHc nC nS 153) := ⟨rfl, rfl, (rE_ga rK_I)⟩
theorem rs_s1_154 {nC nS : Int} : rS zt_s1 (SHc nC nS 154) (SHc nC nS 154) := ⟨rfl, rfl, (rE_ga rK_I)⟩
theorem rs_s1_155 {nC nS : Int} : rS zt_s1 (SHc nC nS 155) (SHc nC nS 155) := ⟨rfl, rfl, (rE_ga rK_I)⟩
theorem rs_s1_156 {nC nS : Int} : rS zt_s1 (SHc nC nS 156) (SHc nC nS 156) := ⟨rfl, rfl, (rE_ga rK_I)⟩
theorem rs_s1_157 {nC nS : Int} : rS zt_s1 (SHc nC nS 157) (SHc nC nS 157) := ⟨rfl, rfl, (rE_ga rK_I)⟩
theorem rs_s1_158 {nC nS : Int} : rS zt_s1 (SHc nC nS 158) (SHc nC nS 158) := ⟨rfl, rfl, (rE_ga rK_I)⟩
theorem rs_s1_159 {nC nS : Int} : rS zt_s1 (SHc nC nS 159) (SHc nC nS 159) := ⟨rfl, rfl, (rE_ga rK_I)⟩
theorem rs_s1_160 {nC nS : Int} : rS zt_s1 (SHc nC nS 160) (SHc nC nS 160) := ⟨rfl, rfl, (rE_ga rK_I)⟩
theorem rs_s1_161 {nC nS : Int} : rS zt_s1 (SHc nC nS 161) (SHc nC nS 161) := ⟨rfl, rfl, (rE_ga rK_I)⟩
theorem rs_s1_162 {nC nS : Int} : rS zt_s1 (SHc nC nS 162) (SHc nC nS 162) := ⟨rfl, rfl, (rE_ga rK_I)⟩
theorem rs_s1_163 {nC nS : Int} : rS zt_s1 (SHc nC nS 163) (SHc nC nS 163) := ⟨rfl, rfl, (rE_ga rK_J)⟩
set_option maxRecDepth 100000 in
theorem rs_s1 {nC nS : Int} (hgC : 0 ≤ nC ∧ nC ≤ 40) (hgS : 0 ≤ nS ∧ nS ≤ 60) : ∀ t u, zt_s1 t = some u → rS zt_s1 (SHc nC nS t) (SHc nC nS u) := by
  intro t u h
  have h := zt_m h
  rcases List.mem_cons.mp h with h | h
  · obtain ⟨rfl, rfl⟩ := Prod.mk.inj h
    exact rs_s1_3 hgC hgS
  rcases List.mem_cons.mp h with h | h
  · obtain ⟨rfl, rfl⟩ := Prod.mk.inj h
    exact rs_s1_4
  rcases List.mem_cons.mp h with h | h
  · obtain ⟨rfl, rfl⟩ := Prod.mk.inj h
    exact rs_s1_5
  rcases List.mem_cons.mp h with h | h
  · obtain ⟨rfl, rfl⟩ := Prod.mk.inj h
    exact rs_s1_6
  rcases List.mem_cons.mp h with h | h
  · obtain ⟨rfl, rfl⟩ := Prod.mk.inj h
    exact rs_s1_7
  rcases List.mem_cons.mp h with h | h
  · obtain ⟨rfl, rfl⟩ := Prod.mk.inj h
    exact rs_s1_8
  rcases List.mem_cons.mp h with h | h
  · obtain ⟨rfl, rfl⟩ := Prod.mk.inj h
    exact rs_s1_9
  rcases List.mem_cons.mp h with h | h
  · obtain ⟨rfl, rfl⟩ := Prod.mk.inj h
    exact rs_s1_10
  rcases List.mem_cons.mp h with h | h
  · obtain ⟨rfl, rfl⟩ := Prod.mk.inj h
    exact rs_s1_11
  rcases List.mem_cons.mp h with h | h
  · obtain ⟨rfl, rfl⟩ := Prod.mk.inj h
    exact rs_s1_12
  rcases List.mem_cons.mp h with h | h
  · obtain ⟨rfl, rfl⟩ := Prod.mk.inj h
    exact rs_s1_13
  rcases List.mem_cons.mp h with h | h
  · obtain ⟨rfl, rfl⟩ := Prod.mk.inj h
    exact rs_s1_14 hgC hgS
  rcases List.mem_cons.mp h with h | h
  · obtain ⟨rfl, rfl⟩ := Prod.mk.inj h
    exact rs_s1_16
  rcases List.mem_cons.mp h with h | h
  · obtain ⟨rfl, rfl⟩ := Prod.mk.inj h
    exact rs_s1_17
  rcases List.mem_cons.mp h with h | h
  · obtain ⟨rfl, rfl⟩ := Prod.mk.inj h
    exact rs_s1_18
  rcases List.mem_cons.mp h with h | h
  · obtain ⟨rfl, rfl⟩ := Prod.mk.inj h
    exact rs_s1_19
  rcases List.mem_cons.mp h with h | h
  · obtain ⟨rfl, rfl⟩ := Prod.mk.inj h
    exact rs_s1_20
  rcases List.mem_cons.mp h with h | h
  · obtain ⟨rfl, rfl⟩ := Prod.mk.inj h
    exact rs_s1_21
  rcases List.mem_cons.mp h with h | h
  · obtain ⟨rfl, rfl⟩ := Prod.mk.inj h
    exact rs_s1_22
  rcases List.mem_cons.mp h with h | h
  · obtain ⟨rfl, rfl⟩ := Prod.mk.inj h
    exact rs_s1_23
  rcases List.mem_cons.mp h with h | h
  · obtain ⟨rfl, rfl⟩ := Prod.mk.inj h
    exact rs_s1_24
  rcases List.mem_cons.mp h with h | h
  · obtain ⟨rfl, rfl⟩ := Prod.mk.inj h
    exact rs_s1_25
  rcases List.mem_cons.mp h with h | h
  · obtain ⟨rfl, rfl⟩ := Prod.mk.inj h
    exact rs_s1_26
  rcases List.mem_cons.mp h with h | h
  · obtain ⟨rfl, rfl⟩ := Prod.mk.inj h
    exact rs_s1_27
  rcases List.mem_cons.mp h with h | h
  · obtain ⟨rfl, rfl⟩ := Prod.mk.inj h
    exact rs_s1_28
  rcases List.mem_cons.mp h with h | h
  · obtain ⟨rfl, rfl⟩ := Prod.mk.inj h
    exact rs_s1_29
  rcases List.mem_cons.mp h with h | h
  · obtain ⟨rfl, rfl⟩ := Prod.mk.inj h
    exact rs_s1_30
  rcases List.mem_cons.mp h with h | h
  · obtain ⟨rfl, rfl⟩ := Prod.mk.inj h
    exact rs_s1_31
  rcases List.mem_cons.mp h with h | h
  · obtain ⟨rfl, rfl⟩ := Prod.mk.inj h
    exact rs_s1_32
  rcases List.mem_cons.mp h with h | h
  · obtain ⟨rfl, rfl⟩ := Prod.mk.inj h
    exact rs_s1_33
  rcases List.mem_cons.mp h with h | h
  · obtain ⟨rfl, rfl⟩ := Prod.mk.inj h
    exact rs_s1_34
  rcases List.mem_cons.mp h with h | h
  · obtain ⟨rfl, rfl⟩ := Prod.mk.inj h
    exact rs_s1_35
  rcases List.mem_cons.mp h with h | h
  · obtain ⟨rfl, rfl⟩ := Prod.mk.inj h
    exact rs_s1_36
  rcases List.mem_cons.mp h with h | h
  · obtain ⟨rfl, rfl⟩ := Prod.mk.inj h
    exact rs_s1_37
  rcases List.mem_cons.mp h with h | h
  · obtain ⟨rfl, rfl⟩ := Prod.mk.inj h
    exact rs_s1_38
  rcases List.mem_cons.mp h with h | h
  · obtain ⟨rfl, rfl⟩ := Prod.mk.inj h
    exact rs_s1_39
  rcases List.mem_cons.mp h with h | h
  · obtain ⟨rfl, rfl⟩ := Prod.mk.inj h
    exact rs_s1_40
  rcases List.mem_cons.mp h with h | h
  · obtain ⟨rfl, rfl⟩ := Prod.mk.inj h
    exact rs_s1_41
  rcases List.mem_cons.mp h with h | h
  · obtain ⟨rfl, rfl⟩ := Prod.mk.inj h
    exact rs_s1_42
  rcases List.mem_cons.mp h with h | h
  · obtain ⟨rfl, rfl⟩ := Prod.mk.inj h
    exact rs_s1_43
  rcases List.mem_cons.mp h with h | h
  · obtain ⟨rfl, rfl⟩ := Prod.mk.inj h
    exact rs_s1_44
  rcases List.mem_cons.mp h with h | h
  · obtain ⟨rfl, rfl⟩ := Prod.mk.inj h
    exact rs_s1_45
  rcases List.mem_cons.mp h with h | h
  · obtain ⟨rfl, rfl⟩ := Prod.mk.inj h
    exact rs_s1_46
  rcases List.mem_cons.mp h with h | h
  · obtain ⟨rfl, rfl⟩ := Prod.mk.inj h
    exact rs_s1_47
  rcases List.mem_cons.mp h with h | h
  · obtain ⟨rfl, rfl⟩ := Prod.mk.inj h
    exact rs_s1_48
  rcases List.mem_cons.mp h with h | h
  · obtain ⟨rfl, rfl⟩ := Prod.mk.inj h
    exact rs_s1_49
  rcases List.mem_cons.mp h with h | h
  · obtain ⟨rfl, rfl⟩ := Prod.mk.inj h
    exact rs_s1_50
  rcases List.mem_cons.mp h with h | h
  · obtain ⟨rfl, rfl⟩ := Prod.mk.inj h
    exact rs_s1_51
  rcases List.mem_cons.mp h with h | h
  · obtain ⟨rfl, rfl⟩ := Prod.mk.inj h
    exact rs_s1_52
  rcases List.mem_cons.mp h with h | h
  · obtain ⟨rfl, rfl⟩ := Prod.mk.inj h
    exact rs_s1_53
  rcases List.mem_cons.mp h with h | h
  · obtain ⟨rfl, rfl⟩ := Prod.mk.inj h
    exact rs_s1_54
  rcases List.mem_cons.mp h with h | h
  · obtain ⟨rfl, rfl⟩ := Prod.mk.inj h
    exact rs_s1_55
  rcases List.mem_cons.mp h with h | h
  · obtain ⟨rfl, rfl⟩ := Prod.mk.inj h
    exact rs_s1_56
  rcases List.mem_cons.mp h with h | h
  · obtain ⟨rfl, rfl⟩ := Prod.mk.inj h
    exact rs_s1_57
  rcases List.mem_cons.mp h with h | h
  · obtain ⟨rfl, rfl⟩ := Prod.mk.inj h
    exact rs_s1_58
  rcases List.mem_cons.mp h with h | h
  · obtain ⟨rfl, rfl⟩ := Prod.mk.inj h
    exact rs_s1_59
  rcases List.mem_cons.mp h with h | h
  · obtain ⟨rfl, rfl⟩ := Prod.mk.inj h
    exact rs_s1_60
  rcases List.mem_cons.mp h with h | h
  · obtain ⟨rfl, rfl⟩ := Prod.mk.inj h
    exact rs_s1_61
  rcases List.mem_cons.mp h with h | h
  · obtain ⟨rfl, rfl⟩ := Prod.mk.inj h
    exact rs_s1_62
  rcases List.mem_cons.mp h with h | h
  · obtain ⟨rfl, rfl⟩ := Prod.mk.inj h
    exact rs_s1_63
  rcases List.mem_cons.mp h with h | h
  · obtain ⟨rfl, rfl⟩ := Prod.mk.inj h
    exact rs_s1_64
  rcases List.mem_cons.mp h with h | h
  · obtain ⟨rfl, rfl⟩ := Prod.mk.inj h
    exact rs_s1_65
  rcases List.mem_cons.mp h with h | h
  · obtain ⟨rfl, rfl⟩ := Prod.mk.inj h
    exact rs_s1_66
  rcases List.mem_cons.mp h with h | h
  · obtain ⟨rfl, rfl⟩ := Prod.mk.inj h
    exact rs_s1_67
  rcases List.mem_cons.mp h with h | h
  · obtain ⟨rfl, rfl⟩ := Prod.mk.inj h
    exact rs_s1_68
  rcases List.mem_cons.mp h with h | h
  · obtain ⟨rfl, rfl⟩ := Prod.mk.inj h
    exact rs_s1_69
  rcases List.mem_cons.mp h with h | h
  · obtain ⟨rfl, rfl⟩ := Prod.mk.inj h
    exact rs_s1_70
  rcases List.mem_cons.mp h with h | h
  · obtain ⟨rfl, rfl⟩ := Prod.mk.inj h
    exact rs_s1_71
  rcases List.mem_cons.mp h with h | h
  · obtain ⟨rfl, rfl⟩ := Prod.mk.inj h
    exact rs_s1_72
  rcases List.mem_cons.mp h with h | h
  · obtain ⟨rfl, rfl⟩ := Prod.mk.inj h
    exact rs_s1_73
  rcases List.mem_cons.mp h with h | h
  · obtain ⟨rfl, rfl⟩ := Prod.mk.inj h
    exact rs_s1_74
  rcases List.mem_cons.mp h with h | h
  · obtain ⟨rfl, rfl⟩ := Prod.mk.inj h
    exact rs_s1_75
  rcases List.mem_cons.mp h with h | h
  · obtain ⟨rfl, rfl⟩ := Prod.mk.inj h
    exact rs_s1_76
  rcases List.mem_cons.mp h with h | h
  · obtain ⟨rfl, rfl⟩ := Prod.mk.inj h
    exact rs_s1_77
  rcases List.mem_cons.mp h with h | h
  · obtain ⟨rfl, rfl⟩ := Prod.mk.inj h
    exact rs_s1_78
  rcases List.mem_cons.mp h with h | h
  · obtain ⟨rfl, rfl⟩ := Prod.mk.inj h
    exact rs_s1_79
  rcases List.mem_cons.mp h with h | h
  · obtain ⟨rfl, rfl⟩ := Prod.mk.inj h
    exact rs_s1_80
  rcases List.mem_cons.mp h with h | h
  · obtain ⟨rfl, rfl⟩ := Prod.mk.inj h
    exact rs_s1_81
  rcases List.mem_cons.mp h with h | h
  · obtain ⟨rfl, rfl⟩ := Prod.mk.inj h
    exact rs_s1_82
  rcases List.mem_cons.mp h with h | h
  · obtain ⟨rfl, rfl⟩ := Prod.mk.inj h
    exact rs_s1_83
  rcases List.mem_cons.mp h with h | h
  · obtain ⟨rfl, rfl⟩ := Prod.mk.inj h
    exact rs_s1_84
  rcases List.mem_cons.mp h with h | h
  · obtain ⟨rfl, rfl⟩ := Prod.mk.inj h
    exact rs_s1_85
  rcases List.mem_cons.mp h with h | h
  · obtain ⟨rfl, rfl⟩ := Prod.mk.inj h
    exact rs_s1_86
  rcases List.mem_cons.mp h with h | h
  · obtain ⟨rfl, rfl⟩ := Prod.mk.inj h
    exact rs_s1_87
  rcases List.mem_cons.mp h with h | h
  · obtain ⟨rfl, rfl⟩ := Prod.mk.inj h
    exact rs_s1_88
  rcases List.mem_cons.mp h with h | h
  · obtain ⟨rfl, rfl⟩ := Prod.mk.inj h
    exact rs_s1_89
  rcases List.mem_cons.mp h with h | h
  · obtain ⟨rfl, rfl⟩ := Prod.mk.inj h
    exact rs_s1_90
  rcases List.mem_cons.mp h with h | h
  · obtain ⟨rfl, rfl⟩ := Prod.mk.inj h
    exact rs_s1_91
  rcases List.mem_cons.mp h with h | h
  · obtain ⟨rfl, rfl⟩ := Prod.mk.inj h
    exact rs_s1_92
  rcases List.mem_cons.mp h with h | h
  · obtain ⟨rfl, rfl⟩ := Prod.mk.inj h
    exact rs_s1_93
  rcases List.mem_cons.mp h with h | h
  · obtain ⟨rfl, rfl⟩ := Prod.mk.inj h
    exact rs_s1_94
  rcases List.mem_cons.mp h with h | h
  · obtain ⟨rfl, rfl⟩ := Prod.mk.inj h
    exact rs_s1_98
  rcases List.mem_cons.mp h with h | h
  · obtain ⟨rfl, rfl⟩ := Prod.mk.inj h
    exact rs_s1_140
  rcases List.mem_cons.mp h with h | h
  · obtain ⟨rfl, rfl⟩ := Prod.mk.inj h
    exact rs_s1_141
  rcases List.mem_cons.mp h with h | h
  · obtain ⟨rfl, rfl⟩ := Prod.mk.inj h
    exact rs_s1_142
  rcases List.mem_cons.mp h with h | h
  · obtain ⟨rfl, rfl⟩ := Prod.mk.inj h
    exact rs_s1_143
  rcases List.mem_cons.mp h with h | h
  · obtain ⟨rfl, rfl⟩ := Prod.mk.inj h
    exact rs_s1_144
  rcases List.mem_cons.mp h with h | h
  · obtain ⟨rfl, rfl⟩ := Prod.mk.inj h
    exact rs_s1_145
  rcases List.mem_cons.mp h with h | h
  · obtain ⟨rfl, rfl⟩ := Prod.mk.inj h
    exact rs_s1_146
  rcases List.mem_cons.mp h with h | h
  · obtain ⟨rfl, rfl⟩ := Prod.mk.inj h
    exact rs_s1_147
  rcases List.mem_cons.mp h with h | h
  · obtain ⟨rfl, rfl⟩ := Prod.mk.inj h
    exact rs_s1_148
  rcases List.mem_cons.mp h with h | h
  · obtain ⟨rfl, rfl⟩ := Prod.mk.inj h
    exact rs_s1_149
  rcases List.mem_cons.mp h with h | h
  · obtain ⟨rfl, rfl⟩ := Prod.mk.inj h
    exact rs_s1_150
  rcases List.mem_cons.mp h with h | h
  · obtain ⟨rfl, rfl⟩ := Prod.mk.inj h
    exact rs_s1_151
  rcases List.mem_cons.mp h with h | h
  · obtain ⟨rfl, rfl⟩ := Prod.mk.inj h
    exact rs_s1_152
  rcases List.mem_cons.mp h with h | h
  · obtain ⟨rfl, rfl⟩ := Prod.mk.inj h
    exact rs_s1_153
  rcases List.mem_cons.mp h with h | h
  · obtain ⟨rfl, rfl⟩ := Prod.mk.inj h
    exact rs_s1_154
  rcases List.mem_cons.mp h with h | h
  · obtain ⟨rfl, rfl⟩ := Prod.mk.inj h
    exact rs_s1_155
  rcases List.mem_cons.mp h with h | h
  · obtain ⟨rfl, rfl⟩ := Prod.mk.inj h
    exact rs_s1_156
  rcases List.mem_cons.mp h with h | h
  · obtain ⟨rfl, rfl⟩ := Prod.mk.inj h
    exact rs_s1_157
  rcases List.mem_cons.mp h with h | h
  · obtain ⟨rfl, rfl⟩ := Prod.mk.inj h
    exact rs_s1_158
  rcases List.mem_cons.mp h with h | h
  · obtain ⟨rfl, rfl⟩ := Prod.mk.inj h
    exact rs_s1_159
  rcases List.mem_cons.mp h with h | h
  · obtain ⟨rfl, rfl⟩ := Prod.mk.inj h
    exact rs_s1_160
  rcases List.mem_cons.mp h with h | h
  · obtain ⟨rfl, rfl⟩ := Prod.mk.inj h
    exact rs_s1_161
  rcases List.mem_cons.mp h with h | h
  · obtain ⟨rfl, rfl⟩ := Prod.mk.inj h
    exact rs_s1_162
  rcases List.mem_cons.mp h with h | h
  · obtain ⟨rfl, rfl⟩ := Prod.mk.inj h
    exact rs_s1_163
  exact absurd h List.not_mem_nil
def ZL_r0 : List (Nat × Nat) := ((4, 4) :: (5, 5) :: (6, 6) :: (7, 7) :: (8, 8) :: (9, 9) :: (10, 10) :: (11, 11) :: (12, 12) :: (13, 13) :: (16, 16) :: (17, 17) :: (18, 18) :: (19, 19) :: (20, 20) :: (21, 21) :: (22, 22) :: (23, 23) :: (24, 24) :: (25, 25) :: (26, 26) :: (27, 27) :: (28, 28) :: (29, 29) :: (30, 30) :: (31, 31) :: (32, 32) :: (33, 33) :: (34, 34) :: (35, 35) :: (36, 36) :: (37, 37) :: (38, 38) :: (39, 39) :: (40, 40) :: (41, 41) :: (42, 42) :: (43, 43) :: (44, 44) :: (45, 45) :: (46, 46) :: (47, 47) :: (48, 48) :: (49, 49) :: (50, 50) :: (51, 51) :: (52, 52) :: (53, 53) :: (54, 54) :: (55, 55) :: (56, 56) :: (57, 57) :: (58, 58) :: (59, 59) :: (60, 60) :: (61, 61) :: (62, 62) :: (63, 63) :: (64, 64) :: (65, 65) :: (66, 66) :: (67, 67) :: (68, 68) :: (69, 69) :: (70, 70) :: (71, 71) :: (72, 72) :: (73, 73) :: (74, 74) :: (75, 75) :: (76, 76) :: (77, 77) :: (78, 78) :: (79, 79) :: (80, 80) :: (81, 81) :: (82, 82) :: (83, 83) :: (84, 84) :: (85, 85) :: (86, 86) :: (87, 87) :: (88, 88) :: (89, 89) :: (90, 90) :: (91, 91) :: (92, 92) :: (93, 93) :: (94, 94) :: (98, 98) :: (140, 140) :: (141, 141) :: (142, 142) :: (143, 143) :: (144, 144) :: (145, 145) :: (146, 146) :: (147, 147) :: (148, 148) :: (149, 149) :: (150, 150) :: (151, 151) :: (152, 152) :: (153, 153) :: (154, 154) :: (155, 155) :: (156, 156) :: (157, 157) :: (158, 158) :: (159, 159) :: (160, 160) :: (161, 161) :: (162, 162) :: (163, 163) :: (166, 3) :: (167, 14) :: [])
def zt_r0 : Nat → Option Nat := zt ZL_r0
theorem rs_r0_4 {nC nS : Int} : rS zt_r0 (SHc nC nS 4) (SHc nC nS 4) := ⟨rfl, rfl, (rE_cons rK_I (rE_cons rK_I (rE_cons rK_I (rE_cons rK_I (rE_cons rK_I (rE_cons rK_I (rE_cons rK_I (rE_cons rK_I rE_nil))))))))⟩
theorem rs_r0_5 {nC nS : Int} : rS zt_r0 (SHc nC nS 5) (SHc nC nS 5) := ⟨rfl, rfl, (rE_cons (rK_R (by decide)) (rE_cons (rK_R (by decide)) (rE_cons (rK_R (by decide)) (rE_cons (rK_R (by decide)) (rE_cons (rK_R (by decide)) (rE_cons (rK_R (by decide)) (rE_cons (rK_R (by decide)) (rE_cons (rK_R (by decide)) (rE_cons (rK_R (by decide)) (rE_cons (rK_R (by decide)) (rE_cons (rK_R (by decide)) (rE_cons rK_I (rE_cons rK_I (rE_cons rK_I (rE_cons rK_I rE_nil)))))))))))))))⟩
theorem rs_r0_6 {nC nS : Int} : rS zt_r0 (SHc nC nS 6) (SHc nC nS 6) := ⟨rfl, rfl, (rE_cons (rK_R (by decide)) (rE_cons (rK_R (by decide)) (rE_cons (rK_R (by decide)) (rE_cons rK_I (rE_cons rK_I rE_nil)))))⟩
theorem rs_r0_7 {nC nS : Int} : rS zt_r0 (SHc nC nS 7) (SHc nC nS 7) := ⟨rfl, rfl, (rE_cons (rK_R (by decide)) (rE_cons (rK_R (by decide)) (rE_cons (rK_R (by decide)) (rE_cons (rK_R (by decide)) (rE_cons (rK_R (by decide)) (rE_cons (rK_R (by decide)) (rE_cons (rK_R (by decide)) (rE_cons (rK_R (by decide)) (rE_cons (rK_R (by decide)) (rE_cons (rK_R (by decide)) (rE_cons (rK_R (by decide)) (rE_cons rK_I (rE_cons rK_I (rE_cons rK_I rE_nil))))))))))))))⟩
theorem rs_r0_8 {nC nS : Int} : rS zt_r0 (SHc nC nS 8) (SHc nC nS 8) := ⟨rfl, rfl, (rE_cons (rK_R (by decide)) (rE_cons (rK_R (by decide)) (rE_cons (rK_R (by decide)) (rE_cons (rK_R (by decide)) (rE_cons (rK_R (by decide)) (rE_cons (rK_R (by decide)) (rE_cons (rK_R (by decide)) (rE_cons (rK_R (by decide)) (rE_cons (rK_R (by decide)) (rE_cons (rK_R (by decide)) (rE_cons (rK_R (by decide)) (rE_cons (rK_R (by decide)) (rE_cons rK_I (rE_cons rK_I (rE_cons rK_I (rE_cons rK_I (rE_cons rK_I rE_nil)))))))))))))))))⟩
theorem rs_r0_9 {nC nS : Int} : rS zt_r0 (SHc nC nS 9) (SHc nC nS 9) := ⟨rfl, rfl, (rE_cons (rK_R (by decide)) (rE_cons (rK_R (by decide)) (rE_cons rK_I (rE_cons rK_I rE_nil))))⟩
theorem rs_r0_10 {nC nS : Int} : rS zt_r0 (SHc nC nS 10) (SHc nC nS 10) := ⟨rfl, rfl, (rE_cons rK_I (rE_cons rK_I (rE_cons rK_I (rE_cons rK_I (rE_cons rK_I (rE_cons rK_I (rE_cons rK_I (rE_cons rK_I (rE_cons rK_I (rE_cons rK_I (rE_cons rK_I (rE_cons rK_I rE_nil))))))))))))⟩
theorem rs_r0_11 {nC nS : Int} : rS zt_r0 (SHc nC nS 11) (SHc nC nS 11) := ⟨rfl, rfl, (rE_cons (rK_R (by decide)) (rE_cons (rK_R (by decide)) (rE_cons (rK_R (by decide)) (rE_cons (rK_R (by decide)) (rE_cons (rK_R (by decide)) (rE_cons (rK_R (by decide)) (rE_cons rK_I rE_nil)))))))⟩
theorem rs_r0_12 {nC nS : Int} : rS zt_r0 (SHc nC nS 12) (SHc nC nS 12) := ⟨rfl, rfl, (rE_cons (rK_R (by decide)) (rE_cons (rK_R (by decide)) (rE_cons rK_I rE_nil)))⟩
theorem rs_r0_13 {nC nS : Int} : rS zt_r0 (SHc nC nS 13) (SHc nC nS 13) := ⟨rfl, rfl, (rE_cons (rK_R (by decide)) (rE_cons (rK_R (by decide)) (rE_cons rK_I (rE_cons rK_I (rE_cons rK_I (rE_cons rK_I (rE_cons rK_I (rE_cons rK_I (rE_cons rK_I (rE_cons rK_I (rE_cons rK_I (rE_cons rK_I rE_nil))))))))))))⟩
theorem rs_r0_16 {nC nS : Int} : rS zt_r0 (SHc nC nS 16) (SHc nC nS 16) := ⟨rfl, rfl, (rE_ga rK_I)⟩
theorem rs_r0_17 {nC nS : Int} : rS zt_r0 (SHc nC nS 17) (SHc nC nS 17) := ⟨rfl, rfl, (rE_gnb (by decide))⟩
theorem rs_r0_18 {nC nS : Int} : rS zt_r0 (SHc nC nS 18) (SHc nC nS 18) := ⟨rfl, rfl, (rE_ga (rK_R (by decide)))⟩
theorem rs_r0_19 {nC nS : Int} : rS zt_r0 (SHc nC nS 19) (SHc nC nS 19) := ⟨rfl, rfl, (rE_ga rK_I)⟩
theorem rs_r0_20 {nC nS : Int} : rS zt_r0 (SHc nC nS 20) (SHc nC nS 20) := ⟨rfl, rfl, (rE_ga rK_I)⟩
theorem rs_r0_21 {nC nS : Int} : rS zt_r0 (SHc nC nS 21) (SHc nC nS 21) := ⟨rfl, rfl, (rE_ga rK_I)⟩
theorem rs_r0_22 {nC nS : Int} : rS zt_r0 (SHc nC nS 22) (SHc nC nS 22) := ⟨rfl, rfl, (rE_ga rK_I)⟩
theorem rs_r0_23 {nC nS : Int} : rS zt_r0 (SHc nC nS 23) (SHc nC nS 23) := ⟨rfl, rfl, (rE_ga rK_I)⟩
theorem rs_r0_24 {nC nS : Int} : rS zt_r0 (SHc nC nS 24) (SHc nC nS 24) := ⟨rfl, rfl, (rE_ga rK_I)⟩
theorem rs_r0_25 {nC nS : Int} : rS zt_r0 (SHc nC nS 25) (SHc nC nS 25) := ⟨rfl, rfl, (rE_ga rK_I)⟩
theorem rs_r0_26 {nC nS : Int} : rS zt_r0 (SHc nC nS 26) (SHc nC nS 26) := ⟨rfl, rfl, (rE_ga rK_I)⟩
theorem rs_r0_27 {nC nS : Int} : rS zt_r0 (SHc nC nS 27) (SHc nC nS 27) := ⟨rfl, rfl, (rE_ga rK_I)⟩
theorem rs_r0_28 {nC nS : Int} : rS zt_r0 (SHc nC nS 28) (SHc nC nS 28) := ⟨rfl, rfl, (rE_ga rK_I)⟩
theorem rs_r0_29 {nC nS : Int} : rS zt_r0 (SHc nC nS 29) (SHc nC nS 29) := ⟨rfl, rfl, (rE_ga rK_I)⟩
theorem rs_r0_30 {nC nS : Int} : rS zt_r0 (SHc nC nS 30) (SHc nC nS 30) := ⟨rfl, rfl, (rE_ga rK_I)⟩
theorem rs_r0_31 {nC nS : Int} : rS zt_r0 (SHc nC nS 31) (SHc nC nS 31) := ⟨rfl, rfl, (rE_ga rK_I)⟩
theorem rs_r0_32 {nC nS : Int} : rS zt_r0 (SHc nC nS 32) (SHc nC nS 32) := ⟨rfl, rfl, (rE_ga rK_I)⟩
theorem rs_r0_33 {nC nS : Int} : rS zt_r0 (SHc nC nS 33) (SHc nC nS 33) := ⟨rfl, rfl, (rE_ga rK_I)⟩
theorem rs_r0_34 {nC nS : Int} : rS zt_r0 (SHc nC nS 34) (SHc nC nS 34) := ⟨rfl, rfl, (rE_ga rK_I)⟩
theorem rs_r0_35 {nC nS : Int} : rS zt_r0 (SHc nC nS 35) (SHc nC nS 35) := ⟨rfl, rfl, (rE_ga rK_I)⟩
theorem rs_r0_36 {nC nS : Int} : rS zt_r0 (SHc nC nS 36) (SHc nC nS 36) := ⟨rfl, rfl, (rE_ga rK_I)⟩
theorem rs_r0_37 {nC nS : Int} : rS zt_r0 (SHc nC nS 37) (SHc nC nS 37) := ⟨rfl, rfl, (rE_ga rK_I)⟩
theorem rs_r0_38 {nC nS : Int} : rS zt_r0 (SHc nC nS 38) (SHc nC nS 38) := ⟨rfl, rfl, (rE_ga rK_I)⟩
theorem rs_r0_39 {nC nS : Int} : rS zt_r0 (SHc nC nS 39) (SHc nC nS 39) := ⟨rfl, rfl, (rE_ga rK_I)⟩
theorem rs_r0_40 {nC nS : Int} : rS zt_r0 (SHc nC nS 40) (SHc nC nS 40) := ⟨rfl, rfl, (rE_ga rK_I)⟩
theorem rs_r0_41 {nC nS : Int} : rS zt_r0 (SHc nC nS 41) (SHc nC nS 41) := ⟨rfl, rfl, (rE_ga rK_I)⟩
theorem rs_r0_42 {nC nS : Int} : rS zt_r0 (SHc nC nS 42) (SHc nC nS 42) := ⟨rfl, rfl, (rE_ga rK_I)⟩
theorem rs_r0_43 {nC nS : Int} : rS zt_r0 (SHc nC nS 43) (SHc nC nS 43) := ⟨rfl, rfl, (rE_ga rK_I)⟩
theorem rs_r0_44 {nC nS : Int} : rS zt_r0 (SHc nC nS 44) (SHc nC nS 44) := ⟨rfl, rfl, (rE_ga rK_I)⟩
theorem rs_r0_45 {nC nS : Int} : rS zt_r0 (SHc nC nS 45) (SHc nC nS 45) := ⟨rfl, rfl, (rE_ga rK_I)⟩
theorem rs_r0_46 {nC nS : Int} : rS zt_r0 (SHc nC nS 46) (SHc nC nS 46) := ⟨rfl, rfl, (rE_ga rK_I)⟩
theorem rs_r0_47 {nC nS : Int} : rS zt_r0 (SHc nC nS 47) (SHc nC nS 47) := ⟨rfl, rfl, (rE_ga rK_I)⟩
theorem rs_r0_48 {nC nS : Int} : rS zt_r0 (SHc nC nS 48) (SHc nC nS 48) := ⟨rfl, rfl, (rE_ga rK_I)⟩
theorem rs_r0_49 {nC nS : Int} : rS zt_r0 (SHc nC nS 49) (SHc nC nS 49) := ⟨rfl, rfl, (rE_ga rK_I)⟩
theorem rs_r0_50 {nC nS : Int} : rS zt_r0 (SHc nC nS 50) (SHc nC nS 50) := ⟨rfl, rfl, (rE_ga rK_J)⟩
theorem rs_r0_51 {nC nS : Int} : rS zt_r0 (SHc nC nS 51) (SHc nC nS 51) := ⟨rfl, rfl, (rE_gnb (by decide))⟩
theorem rs_r0_52 {nC nS : Int} : rS zt_r0 (SHc nC nS 52) (SHc nC nS 52) := ⟨rfl, rfl, (rE_ga rK_I)⟩
theorem rs_r0_53 {nC nS : Int} : rS zt_r0 (SHc nC nS 53) (SHc nC nS 53) := ⟨rfl, rfl, (rE_ga rK_I)⟩
theorem rs_r0_54 {nC nS : Int} : rS zt_r0 (SHc nC nS 54) (SHc nC nS 54) := ⟨rfl, rfl, (rE_ga rK_I)⟩
theorem rs_r0_55 {nC nS : Int} : rS zt_r0 (SHc nC nS 55) (SHc nC nS 55) := ⟨rfl, rfl, (rE_ga rK_I)⟩
theorem rs_r0_56 {nC nS : Int} : rS zt_r0 (SHc nC nS 56) (SHc nC nS 56) := ⟨rfl, rfl, (rE_ga rK_J)⟩
theorem rs_r0_57 {nC nS : Int} : rS zt_r0 (SHc nC nS 57) (SHc nC nS 57) := ⟨rfl, rfl, (rE_ga rK_I)⟩
theorem rs_r0_58 {nC nS : Int} : rS zt_r0 (SHc nC nS 58) (SHc nC nS 58) := ⟨rfl, rfl, (rE_ga rK_I)⟩
theorem rs_r0_59 {nC nS : Int} : rS zt_r0 (SHc nC nS 59) (SHc nC nS 59) := ⟨rfl, rfl, (rE_ga rK_I)⟩
theorem rs_r0_60 {nC nS : Int} : rS zt_r0 (SHc nC nS 60) (SHc nC nS 60) := ⟨rfl, rfl, (rE_ga rK_I)⟩
theorem rs_r0_61 {nC nS : Int} : rS zt_r0 (SHc nC nS 61) (SHc nC nS 61) := ⟨rfl, rfl, (rE_ga rK_I)⟩
theorem rs_r0_62 {nC nS : Int} : rS zt_r0 (SHc nC nS 62) (SHc nC nS 62) := ⟨rfl, rfl, (rE_ga rK_I)⟩
theorem rs_r0_63 {nC nS : Int} : rS zt_r0 (SHc nC nS 63) (SHc nC nS 63) := ⟨rfl, rfl, (rE_ga rK_I)⟩
theorem rs_r0_64 {nC nS : Int} : rS zt_r0 (SHc nC nS 64) (SHc nC nS 64) := ⟨rfl, rfl, (rE_ga rK_I)⟩
theorem rs_r0_65 {nC nS : Int} : rS zt_r0 (SHc nC nS 65) (SHc nC nS 65) := ⟨rfl, rfl, (rE_ga rK_I)⟩
theorem rs_r0_66 {nC nS : Int} : rS zt_r0 (SHc nC nS 66) (SHc nC nS 66) := ⟨rfl, rfl, (rE_ga rK_I)⟩
theorem rs_r0_67 {nC nS : Int} : rS zt_r0 (SHc nC nS 67) (SHc nC nS 67) := ⟨rfl, rfl, (rE_ga rK_I)⟩
theorem rs_r0_68 {nC nS : Int} : rS zt_r0 (SHc nC nS 68) (SHc nC nS 68) := ⟨rfl, rfl, (rE_ga rK_I)⟩
theorem rs_r0_69 {nC nS : Int} : rS zt_r0 (SHc nC nS 69) (SHc nC nS 69) := ⟨rfl, rfl, (rE_ga rK_I)⟩
theorem rs_r0_70 {nC nS : Int} : rS zt_r0 (SHc nC nS 70) (SHc nC nS 70) := ⟨rfl, rfl, (rE_ga (rK_R (by decide)))⟩
theorem rs_r0_71 {nC nS : Int} : rS zt_r0 (SHc nC nS 71) (SHc nC nS 71) := ⟨rfl, rfl, (rE_ga rK_I)⟩
theorem rs_r0_72 {nC nS : Int} : rS zt_r0 (SHc nC nS 72) (SHc nC nS 72) := ⟨rfl, rfl, (rE_ga rK_I)⟩
theorem rs_r0_73 {nC nS : Int} : rS zt_r0 (SHc nC nS 73) (SHc nC nS 73) := ⟨rfl, rfl, (rE_ga rK_I)⟩
theorem rs_r0_74 {nC nS : Int} : rS zt_r0 (SHc nC nS 74) (SHc nC nS 74) := ⟨rfl, rfl, (rE_ga rK_I)⟩
theorem rs_r0_75 {nC nS : Int} : rS zt_r0 (SHc nC nS 75) (SHc nC nS 75) := ⟨rfl, rfl, (rE_ga rK_I)⟩
theorem rs_r0_76 {nC nS : Int} : rS zt_r0 (SHc nC nS 76) (SHc nC nS 76) := ⟨rfl, rfl, (rE_ga rK_I)⟩
theorem rs_r0_77 {nC nS : Int} : rS zt_r0 (SHc nC nS 77) (SHc nC nS 77) := ⟨rfl, rfl, (rE_ga rK_I)⟩
theorem rs_r0_78 {nC nS : Int} : rS zt_r0 (SHc nC nS 78) (SHc nC nS 78) := ⟨rfl, rfl, (rE_ga rK_I)⟩
theorem rs_r0_79 {nC nS : Int} : rS zt_r0 (SHc nC nS 79) (SHc nC nS 79) := ⟨rfl, rfl, (rE_ga rK_I)⟩
theorem rs_r0_80 {nC nS : Int} : rS zt_r0 (SHc nC nS 80) (SHc nC nS 80) := ⟨rfl, rfl, (rE_ga rK_I)⟩
theorem rs_r0_81 {nC nS : Int} : rS zt_r0 (SHc nC nS 81) (SHc nC nS 81) := ⟨rfl, rfl, (rE_ga rK_I)⟩
theorem rs_r0_82 {nC nS : Int} : rS zt_r0 (SHc nC nS 82) (SHc nC nS 82) := ⟨rfl, rfl, (rE_ga rK_I)⟩
theorem rs_r0_83 {nC nS : Int} : rS zt_r0 (SHc nC nS 83) (SHc nC nS 83) := ⟨rfl, rfl, (rE_ga rK_I)⟩
theorem rs_r0_84 {nC nS : Int} : rS zt_r0 (SHc nC nS 84) (SHc nC nS 84) := ⟨rfl, rfl, (rE_ga rK_I)⟩
theorem rs_r0_85 {nC nS : Int} : rS zt_r0 (SHc nC nS 85) (SHc nC nS 85) := ⟨rfl, rfl, (rE_ga rK_I)⟩
theorem rs_r0_86 {nC nS : Int} : rS zt_r0 (SHc nC nS 86) (SHc nC nS 86) := ⟨rfl, rfl, (rE_ga rK_I)⟩
theorem rs_r0_87 {nC nS : Int} : rS zt_r0 (SHc nC nS 87) (SHc nC nS 87) := ⟨rfl, rfl, (rE_ga rK_I)⟩
theorem rs_r0_88 {nC nS : Int} : rS zt_r0 (SHc nC nS 88) (SHc nC nS 88) := ⟨rfl, rfl, (rE_ga rK_I)⟩
theorem rs_r0_89 {nC nS : Int} : rS zt_r0 (SHc nC nS 89) (SHc nC nS 89) := ⟨rfl, rfl, (rE_ga rK_I)⟩
theorem rs_r0_90 {nC nS : Int} : rS zt_r0 (SHc nC nS 90) (SHc nC nS 90) := ⟨rfl, rfl, (rE_cons (rK_R (by decide)) (rE_cons (rK_R (by decide)) (rE_cons (rK_R (by decide)) (rE_cons rK_I (rE_cons rK_I rE_nil)))))⟩
theorem rs_r0_91 {nC nS : Int} : rS zt_r0 (SHc nC nS 91) (SHc nC nS 91) := ⟨rfl, rfl, (rE_cons (rK_R (by decide)) (rE_cons (rK_R (by decide)) (rE_cons (rK_R (by decide)) (rE_cons (rK_R (by decide)) (rE_cons (rK_R (by decide)) (rE_cons (rK_R (by decide)) (rE_cons rK_I rE_nil)))))))⟩
theorem rs_r0_92 {nC nS : Int} : rS zt_r0 (SHc nC nS 92) (SHc nC nS 92) := ⟨rfl, rfl, (rE_cons (rK_R (by decide)) (rE_cons (rK_R (by decide)) (rE_cons rK_I rE_nil)))⟩
theorem rs_r0_93 {nC nS : Int} : rS zt_r0 (SHc nC nS 93) (SHc nC nS 93) := ⟨rfl, rfl, (rE_cons (rK_R (by decide)) (rE_cons (rK_R (by decide)) (rE_cons (rK_R (by decide)) (rE_cons (rK_R (by decide)) (rE_cons (rK_R (by decide)) (rE_cons (rK_R (by decide)) (rE_cons (rK_R (by decide)) (rE_cons (rK_R (by decide)) (rE_cons (rK_R (by decide)) (rE_cons (rK_R (by decide)) (rE_cons (rK_R (by decide)) (rE_cons rK_I (rE_cons rK_I (rE_cons rK_I (rE_cons rK_I rE_nil)))))))))))))))⟩
theorem rs_r0_94 {nC nS : Int} : rS zt_r0 (SHc nC nS 94) (SHc nC nS 94) := ⟨rfl, rfl, (rE_cons (rK_R (by decide)) (rE_cons (rK_R (by decide)) (rE_cons rK_I (rE_cons rK_I (rE_cons rK_I (rE_cons rK_I (rE_cons rK_I (rE_cons rK_I (rE_cons rK_I (rE_cons rK_I (rE_cons rK_I (rE_cons rK_I rE_nil))))))))))))⟩
theorem rs_r0_98 {nC nS : Int} : rS zt_r0 (SHc nC nS 98) (SHc nC nS 98) := ⟨rfl, rfl, (rE_ga rK_J)⟩
theorem rs_r0_140 {nC nS : Int} : rS zt_r0 (SHc nC nS 140) (SHc nC nS 140) := ⟨rfl, rfl, (rE_cons (rK_R (by decide)) (rE_cons (rK_R (by decide)) (rE_cons (rK_R (by decide)) (rE_cons (rK_R (by decide)) (rE_cons (rK_R (by decide)) (rE_cons (rK_R (by decide)) (rE_cons (rK_R (by decide)) (rE_cons (rK_R (by decide)) (rE_cons (rK_R (by decide)) (rE_cons (rK_R (by decide)) (rE_cons (rK_R (by decide)) (rE_cons rK_I (rE_cons rK_I (rE_cons rK_I rE_nil))))))))))))))⟩
theorem rs_r0_141 {nC nS : Int} : rS zt_r0 (SHc nC nS 141) (SHc nC nS 141) := ⟨rfl, rfl, (rE_ga rK_I)⟩
theorem rs_r0_142 {nC nS : Int} : rS zt_r0 (SHc nC nS 142) (SHc nC nS 142) := ⟨rfl, rfl, (rE_ga rK_I)⟩
theorem rs_r0_143 {nC nS : Int} : rS zt_r0 (SHc nC nS 143) (SHc nC nS 143) := ⟨rfl, rfl, (rE_ga rK_I)⟩
theorem rs_r0_144 {nC nS : Int} : rS zt_r0 (SHc nC nS 144) (SHc nC nS 144) := ⟨rfl, rfl, (rE_ga rK_I)⟩
theorem rs_r0_145 {nC nS : Int} : rS zt_r0 (SHc nC nS 145) (SHc nC nS 145) := ⟨rfl, rfl, (rE_ga rK_I)⟩
theorem rs_r0_146 {nC nS : Int} : rS zt_r0 (SHc nC nS 146) (SHc nC nS 146) := ⟨rfl, rfl, (rE_ga rK_I)⟩
theorem rs_r0_147 {nC nS : Int} : rS zt_r0 (SHc nC nS 147) (SHc nC nS 147) := ⟨rfl, rfl, (rE_ga rK_I)⟩
theorem rs_r0_148 {nC nS : Int} : rS zt_r0 (SHc nC nS 148) (SHc nC nS 148) := ⟨rfl, rfl, (rE_ga rK_I)⟩
theorem rs_r0_149 {nC nS : Int} : rS zt_r0 (SHc nC nS 149) (SHc nC nS 149) := ⟨rfl, rfl, (rE_ga rK_I)⟩
theorem rs_r0_150 {nC nS : Int} : rS zt_r0 (SHc nC nS 150) (SHc nC nS 150) := ⟨rfl, rfl, (rE_ga rK_I)⟩
theorem rs_r0_151 {nC nS : Int} : rS zt_r0 (SHc nC nS 151) (SHc nC nS 151) := ⟨rfl, rfl, (rE_ga rK_J)⟩
theorem rs_r0_152 {nC nS : Int} : rS zt_r0 (SHc nC nS 152) (SHc nC nS 152) := ⟨rfl, rfl, (rE_cons (rK_R (by decide)) (rE_cons (rK_R (by decide)) (rE_cons (rK_R (by decide)) (rE_cons (rK_R (by decide)) (rE_cons (rK_R (by decide)) (rE_cons (rK_R (by decide)) (rE_cons (rK_R (by decide)) (rE_cons (rK_R (by decide)) (rE_cons (rK_R (by decide)) (rE_cons (rK_R (by decide)) (rE_cons (rK_R (by decide)) (rE_cons rK_I (rE_cons rK_I (rE_cons rK_I rE_nil))))))))))))))⟩
theorem rs_r0_153 {nC nS : Int} : rS zt_r0 (SHc nC nS 153) (SHc nC nS 153) := ⟨rfl, rfl, (rE_ga rK_I)⟩
theorem rs_r0_154 {nC nS : Int} : rS zt_r0 (SHc nC nS 154) (SHc nC nS 154) := ⟨rfl, rfl, (rE_ga rK_I)⟩
theorem rs_r0_155 {nC nS : Int} : rS zt_r0 (SHc nC nS 155) (SHc nC nS 155) := ⟨rfl, rfl, (rE_ga rK_I)⟩
theorem rs_r0_156 {nC nS : Int} : rS zt_r0 (SHc nC nS 156) (SHc nC nS 156) := ⟨rfl, rfl, (rE_ga rK_I)⟩
theorem rs_r0_157 {nC nS : Int} : rS zt_r0 (SHc nC nS 157) (SHc nC nS 157) := ⟨rfl, rfl, (rE_ga rK_I)⟩
theorem rs_r0_158 {nC nS : Int} : rS zt_r0 (SHc nC nS 158) (SHc nC nS 158) := ⟨rfl, rfl, (rE_ga rK_I)⟩
theorem rs_r0_159 {nC nS : Int} : rS zt_r0 (SHc nC nS 159) (SHc nC nS 159) := ⟨rfl, rfl, (rE_ga rK_I)⟩
theorem rs_r0_160 {nC nS : Int} : rS zt_r0 (SHc nC nS 160) (SHc nC nS 160) := ⟨rfl, rfl, (rE_ga rK_I)⟩
theorem rs_r0_161 {nC nS : Int} : rS zt_r0 (SHc nC nS 161) (SHc nC nS 161) := ⟨rfl, rfl, (rE_ga rK_I)⟩
theorem rs_r0_162 {nC nS : Int} : rS zt_r0 (SHc nC nS 162) (SHc nC nS 162) := ⟨rfl, rfl, (rE_ga rK_I)⟩
theorem rs_r0_163 {nC nS : Int} : rS zt_r0 (SHc nC nS 163) (SHc nC nS 163) := ⟨rfl, rfl, (rE_ga rK_J)⟩
set_option maxRecDepth 100000 in
theorem rs_r0 {nC nS : Int} : ∀ t u, t ≠ 166 → t ≠ 167 → zt_r0 t = some u → rS zt_r0 (SHc nC nS t) (SHc nC nS u) := by
  intro t u hne hne2 h
  have h := zt_m h
  rcases List.mem_cons.mp h with h | h
  · obtain ⟨rfl, rfl⟩ := Prod.mk.inj h
    exact rs_r0_4
  rcases List.mem_cons.mp h with h | h
  · obtain ⟨rfl, rfl⟩ := Prod.mk.inj h
    exact rs_r0_5
  rcases List.mem_cons.mp h with h | h
  · obtain ⟨rfl, rfl⟩ := Prod.mk.inj h
    exact rs_r0_6
  rcases List.mem_cons.mp h with h | h
  · obtain ⟨rfl, rfl⟩ := Prod.mk.inj h
    exact rs_r0_7
  rcases List.mem_cons.mp h with h | h
  · obtain ⟨rfl, rfl⟩ := Prod.mk.inj h
    exact rs_r0_8
  rcases List.mem_cons.mp h with h | h
  · obtain ⟨rfl, rfl⟩ := Prod.mk.inj h
    exact rs_r0_9
  rcases List.mem_cons.mp h with h | h
  · obtain ⟨rfl, rfl⟩ := Prod.mk.inj h
    exact rs_r0_10
  rcases List.mem_cons.mp h with h | h
  · obtain ⟨rfl, rfl⟩ := Prod.mk.inj h
    exact rs_r0_11
  rcases List.mem_cons.mp h with h | h
  · obtain ⟨rfl, rfl⟩ := Prod.mk.inj h
    exact rs_r0_12
  rcases List.mem_cons.mp h with h | h
  · obtain ⟨rfl, rfl⟩ := Prod.mk.inj h
    exact rs_r0_13
  rcases List.mem_cons.mp h with h | h
  · obtain ⟨rfl, rfl⟩ := Prod.mk.inj h
    exact rs_r0_16
  rcases List.mem_cons.mp h with h | h
  · obtain ⟨rfl, rfl⟩ := Prod.mk.inj h
    exact rs_r0_17
  rcases List.mem_cons.mp h with h | h
  · obtain ⟨rfl, rfl⟩ := Prod.mk.inj h
    exact rs_r0_18
  rcases List.mem_cons.mp h with h | h
  · obtain ⟨rfl, rfl⟩ := Prod.mk.inj h
    exact rs_r0_19
  rcases List.mem_cons.mp h with h | h
  · obtain ⟨rfl, rfl⟩ := Prod.mk.inj h
    exact rs_r0_20
  rcases List.mem_cons.mp h with h | h
  · obtain ⟨rfl, rfl⟩ := Prod.mk.inj h
    exact rs_r0_21
  rcases List.mem_cons.mp h with h | h
  · obtain ⟨rfl, rfl⟩ := Prod.mk.inj h
    exact rs_r0_22
  rcases List.mem_cons.mp h with h | h
  · obtain ⟨rfl, rfl⟩ := Prod.mk.inj h
    exact rs_r0_23
  rcases List.mem_cons.mp h with h | h
  · obtain ⟨rfl, rfl⟩ := Prod.mk.inj h
    exact rs_r0_24
  rcases List.mem_cons.mp h with h | h
  · obtain ⟨rfl, rfl⟩ := Prod.mk.inj h
    exact rs_r0_25
  rcases List.mem_cons.mp h with h | h
  · obtain ⟨rfl, rfl⟩ := Prod.mk.inj h
    exact rs_r0_26
  rcases List.mem_cons.mp h with h | h
  · obtain ⟨rfl, rfl⟩ := Prod.mk.inj h
    exact rs_r0_27
  rcases List.mem_cons.mp h with h | h
  · obtain ⟨rfl, rfl⟩ := Prod.mk.inj h
    exact rs_r0_28
  rcases List.mem_cons.mp h with h | h
  · obtain ⟨rfl, rfl⟩ := Prod.mk.inj h
    exact rs_r0_29
  rcases List.mem_cons.mp h with h | h
  · obtain ⟨rfl, rfl⟩ := Prod.mk.inj h
    exact rs_r0_30
  rcases List.mem_cons.mp h with h | h
  · obtain ⟨rfl, rfl⟩ := Prod.mk.inj h
    exact rs_r0_31
  rcases List.mem_cons.mp h with h | h
  · obtain ⟨rfl, rfl⟩ := Prod.mk.inj h
    exact rs_r0_32
  rcases List.mem_cons.mp h with h | h
  · obtain ⟨rfl, rfl⟩ := Prod.mk.inj h
    exact rs_r0_33
  rcases List.mem_cons.mp h with h | h
  · obtain ⟨rfl, rfl⟩ := Prod.mk.inj h
    exact rs_r0_34
  rcases List.mem_cons.mp h with h | h
  · obtain ⟨rfl, rfl⟩ := Prod.mk.inj h
    exact rs_r0_35
  rcases List.mem_cons.mp h with h | h
  · obtain ⟨rfl, rfl⟩ := Prod.mk.inj h
    exact rs_r0_36
  rcases List.mem_cons.mp h with h | h
  · obtain ⟨rfl, rfl⟩ := Prod.mk.inj h
    exact rs_r0_37
  rcases List.mem_cons.mp h with h | h
  · obtain ⟨rfl, rfl⟩ := Prod.mk.inj h
    exact rs_r0_38
  rcases List.mem_cons.mp h with h | h
  · obtain ⟨rfl, rfl⟩ := Prod.mk.inj h
    exact rs_r0_39
  rcases List.mem_cons.mp h with h | h
  · obtain ⟨rfl, rfl⟩ := Prod.mk.inj h
    exact rs_r0_40
  rcases List.mem_cons.mp h with h | h
  · obtain ⟨rfl, rfl⟩ := Prod.mk.inj h
    exact rs_r0_41
  rcases List.mem_cons.mp h with h | h
  · obtain ⟨rfl, rfl⟩ := Prod.mk.inj h
    exact rs_r0_42
  rcases List.mem_cons.mp h with h | h
  · obtain ⟨rfl, rfl⟩ := Prod.mk.inj h
    exact rs_r0_43
  rcases List.mem_cons.mp h with h | h
  · obtain ⟨rfl, rfl⟩ := Prod.mk.inj h
    exact rs_r0_44
  rcases List.mem_cons.mp h with h | h
  · obtain ⟨rfl, rfl⟩ := Prod.mk.inj h
    exact rs_r0_45
  rcases List.mem_cons.mp h with h | h
  · obtain ⟨rfl, rfl⟩ := Prod.mk.inj h
    exact rs_r0_46
  rcases List.mem_cons.mp h with h | h
  · obtain ⟨rfl, rfl⟩ := Prod.mk.inj h
    exact rs_r0_47
  rcases List.mem_cons.mp h with h | h
  · obtain ⟨rfl, rfl⟩ := Prod.mk.inj h
    exact rs_r0_48
  rcases List.mem_cons.mp h with h | h
  · obtain ⟨rfl, rfl⟩ := Prod.mk.inj h
    exact rs_r0_49
  rcases List.mem_cons.mp h with h | h
  · obtain ⟨rfl, rfl⟩ := Prod.mk.inj h
    exact rs_r0_50
  rcases List.mem_cons.mp h with h | h
  · obtain ⟨rfl, rfl⟩ := Prod.mk.inj h
    exact rs_r0_51
  rcases List.mem_cons.mp h with h | h
  · obtain ⟨rfl, rfl⟩ := Prod.mk.inj h
    exact rs_r0_52
  rcases List.mem_cons.mp h with h | h
  · obtain ⟨rfl, rfl⟩ := Prod.mk.inj h
    exact rs_r0_53
  rcases List.mem_cons.mp h with h | h
  · obtain ⟨rfl, rfl⟩ := Prod.mk.inj h
    exact rs_r0_54
  rcases List.mem_cons.mp h with h | h
  · obtain ⟨rfl, rfl⟩ := Prod.mk.inj h
    exact rs_r0_55
  rcases List.mem_cons.mp h with h | h
  · obtain ⟨rfl, rfl⟩ := Prod.mk.inj h
    exact rs_r0_56
  rcases List.mem_cons.mp h with h | h
  · obtain ⟨rfl, rfl⟩ := Prod.mk.inj h
    exact rs_r0_57
  rcases List.mem_cons.mp h with h | h
  · obtain ⟨rfl, rfl⟩ := Prod.mk.inj h
    exact rs_r0_58
  rcases List.mem_cons.mp h with h | h
  · obtain ⟨rfl, rfl⟩ := Prod.mk.inj h
    exact rs_r0_59
  rcases List.mem_cons.mp h with h | h
  · obtain ⟨rfl, rfl⟩ := Prod.mk.inj h
    exact rs_r0_60
  rcases List.mem_cons.mp h with h | h
  · obtain ⟨rfl, rfl⟩ := Prod.mk.inj h
    exact rs_r0_61
  rcases List.mem_cons.mp h with h | h
  · obtain ⟨rfl, rfl⟩ := Prod.mk.inj h
    exact rs_r0_62
  rcases List.mem_cons.mp h with h | h
  · obtain ⟨rfl, rfl⟩ := Prod.mk.inj h
    exact rs_r0_63
  rcases List.mem_cons.mp h with h | h
  · obtain ⟨rfl, rfl⟩ := Prod.mk.inj h
    exact rs_r0_64
  rcases List.mem_cons.mp h with h | h
  · obtain ⟨rfl, rfl⟩ := Prod.mk.inj h
    exact rs_r0_65
  rcases List.mem_cons.mp h with h | h
  · obtain ⟨rfl, rfl⟩ := Prod.mk.inj h
    exact rs_r0_66
  rcases List.mem_cons.mp h with h | h
  · obtain ⟨rfl, rfl⟩ := Prod.mk.inj h
    exact rs_r0_67
  rcases List.mem_cons.mp h with h | h
  · obtain ⟨rfl, rfl⟩ := Prod.mk.inj h
    exact rs_r0_68
  rcases List.mem_cons.mp h with h | h
  · obtain ⟨rfl, rfl⟩ := Prod.mk.inj h
    exact rs_r0_69
  rcases List.mem_cons.mp h with h | h
  · obtain ⟨rfl, rfl⟩ := Prod.mk.inj h
    exact rs_r0_70
  rcases List.mem_cons.mp h with h | h
  · obtain ⟨rfl, rfl⟩ := Prod.mk.inj h
    exact rs_r0_71
  rcases List.mem_cons.mp h with h | h
  · obtain ⟨rfl, rfl⟩ := Prod.mk.inj h
    exact rs_r0_72
  rcases List.mem_cons.mp h with h | h
  · obtain ⟨rfl, rfl⟩ := Prod.mk.inj h
    exact rs_r0_73
  rcases List.mem_cons.mp h with h | h
  · obtain ⟨rfl, rfl⟩ := Prod.mk.inj h
    exact rs_r0_74
  rcases List.mem_cons.mp h with h | h
  · obtain ⟨rfl, rfl⟩ := Prod.mk.inj h
    exact rs_r0_75
  rcases List.mem_cons.mp h with h | h
  · obtain ⟨rfl, rfl⟩ := Prod.mk.inj h
    exact rs_r0_76
  rcases List.mem_cons.mp h with h | h
  · obtain ⟨rfl, rfl⟩ := Prod.mk.inj h
    exact rs_r0_77
  rcases List.mem_cons.mp h with h | h
  · obtain ⟨rfl, rfl⟩ := Prod.mk.inj h
    exact rs_r0_78
  rcases List.mem_cons.mp h with h | h
  · obtain ⟨rfl, rfl⟩ := Prod.mk.inj h
    exact rs_r0_79
  rcases List.mem_cons.mp h with h | h
  · obtain ⟨rfl, rfl⟩ := Prod.mk.inj h
    exact rs_r0_80
  rcases List.mem_cons.mp h with h | h
  · obtain ⟨rfl, rfl⟩ := Prod.mk.inj h
    exact rs_r0_81
  rcases List.mem_cons.mp h with h | h
  · obtain ⟨rfl, rfl⟩ := Prod.mk.inj h
    exact rs_r0_82
  rcases List.mem_cons.mp h with h | h
  · obtain ⟨rfl, rfl⟩ := Prod.mk.inj h
    exact rs_r0_83
  rcases List.mem_cons.mp h with h | h
  · obtain ⟨rfl, rfl⟩ := Prod.mk.inj h
    exact rs_r0_84
  rcases List.mem_cons.mp h with h | h
  · obtain ⟨rfl, rfl⟩ := Prod.mk.inj h
    exact rs_r0_85
  rcases List.mem_cons.mp h with h | h
  · obtain ⟨rfl, rfl⟩ := Prod.mk.inj h
    exact rs_r0_86
  rcases List.mem_cons.mp h with h | h
  · obtain ⟨rfl, rfl⟩ := Prod.mk.inj h
    exact rs_r0_87
  rcases List.mem_cons.mp h with h | h
  · obtain ⟨rfl, rfl⟩ := Prod.mk.inj h
    exact rs_r0_88
  rcases List.mem_cons.mp h with h | h
  · obtain ⟨rfl, rfl⟩ := Prod.mk.inj h
    exact rs_r0_89
  rcases List.mem_cons.mp h with h | h
  · obtain ⟨rfl, rfl⟩ := Prod.mk.inj h
    exact rs_r0_90
  rcases List.mem_cons.mp h with h | h
  · obtain ⟨rfl, rfl⟩ := Prod.mk.inj h
    exact rs_r0_91
  rcases List.mem_cons.mp h with h | h
  · obtain ⟨rfl, rfl⟩ := Prod.mk.inj h
    exact rs_r0_92
  rcases List.mem_cons.mp h with h | h
  · obtain ⟨rfl, rfl⟩ := Prod.mk.inj h
    exact rs_r0_93
  rcases List.mem_cons.mp h with h | h
  · obtain ⟨rfl, rfl⟩ := Prod.mk.inj h
    exact rs_r0_94
  rcases List.mem_cons.mp h with h | h
  · obtain ⟨rfl, rfl⟩ := Prod.mk.inj h
    exact rs_r0_98
  rcases List.mem_cons.mp h with h | h
  · obtain ⟨rfl, rfl⟩ := Prod.mk.inj h
    exact rs_r0_140
  rcases List.mem_cons.mp h with h | h
  · obtain ⟨rfl, rfl⟩ := Prod.mk.inj h
    exact rs_r0_141
  rcases List.mem_cons.mp h with h | h
  · obtain ⟨rfl, rfl⟩ := Prod.mk.inj h
    exact rs_r0_142
  rcases List.mem_cons.mp h with h | h
  · obtain ⟨rfl, rfl⟩ := Prod.mk.inj h
    exact rs_r0_143
  rcases List.mem_cons.mp h with h | h
  · obtain ⟨rfl, rfl⟩ := Prod.mk.inj h
    exact rs_r0_144
  rcases List.mem_cons.mp h with h | h
  · obtain ⟨rfl, rfl⟩ := Prod.mk.inj h
    exact rs_r0_145
  rcases List.mem_cons.mp h with h | h
  · obtain ⟨rfl, rfl⟩ := Prod.mk.inj h
    exact rs_r0_146
  rcases List.mem_cons.mp h with h | h
  · obtain ⟨rfl, rfl⟩ := Prod.mk.inj h
    exact rs_r0_147
  rcases List.mem_cons.mp h with h | h
  · obtain ⟨rfl, rfl⟩ := Prod.mk.inj h
    exact rs_r0_148
  rcases List.mem_cons.mp h with h | h
  · obtain ⟨rfl, rfl⟩ := Prod.mk.inj h
    exact rs_r0_149
  rcases List.mem_cons.mp h with h | h
  · obtain ⟨rfl, rfl⟩ := Prod.mk.inj h
    exact rs_r0_150
  rcases List.mem_cons.mp h with h | h
  · obtain ⟨rfl, rfl⟩ := Prod.mk.inj h
    exact rs_r0_151
  rcases List.mem_cons.mp h with h | h
  · obtain ⟨rfl, rfl⟩ := Prod.mk.inj h
    exact rs_r0_152
  rcases List.mem_cons.mp h with h | h
  · obtain ⟨rfl, rfl⟩ := Prod.mk.inj h
    exact rs_r0_153
  rcases List.mem_cons.mp h with h | h
  · obtain ⟨rfl, rfl⟩ := Prod.mk.inj h
    exact rs_r0_154
  rcases List.mem_cons.mp h with h | h
  · obtain ⟨rfl, rfl⟩ := Prod.mk.inj h
    exact rs_r0_155
  rcases List.mem_cons.mp h with h | h
  · obtain ⟨rfl, rfl⟩ := Prod.mk.inj h
    exact rs_r0_156
  rcases List.mem_cons.mp h with h | h
  · obtain ⟨rfl, rfl⟩ := Prod.mk.inj h
    exact rs_r0_157
  rcases List.mem_cons.mp h with h | h
  · obtain ⟨rfl, rfl⟩ := Prod.mk.inj h
    exact rs_r0_158
  rcases List.mem_cons.mp h with h | h
  · obtain ⟨rfl, rfl⟩ := Prod.mk.inj h
    exact rs_r0_159
  rcases List.mem_cons.mp h with h | h
  · obtain ⟨rfl, rfl⟩ := Prod.mk.inj h
    exact rs_r0_160
  rcases List.mem_cons.mp h with h | h
  · obtain ⟨rfl, rfl⟩ := Prod.mk.inj h
    exact rs_r0_161
  rcases List.mem_cons.mp h with h | h
  · obtain ⟨rfl, rfl⟩ := Prod.mk.inj h
    exact rs_r0_162
  rcases List.mem_cons.mp h with h | h
  · obtain ⟨rfl, rfl⟩ := Prod.mk.inj h
    exact rs_r0_163
  rcases List.mem_cons.mp h with h | h
  · obtain ⟨rfl, rfl⟩ := Prod.mk.inj h
    exact absurd rfl hne
  rcases List.mem_cons.mp h with h | h
  · obtain ⟨rfl, rfl⟩ := Prod.mk.inj h
    exact absurd rfl hne2
  exact absurd h List.not_mem_nil
def ZL_rF : List (Nat × Nat) := ((4, 4) :: (5, 5) :: (6, 6) :: (7, 152) :: (8, 8) :: (9, 9) :: (10, 10) :: (11, 11) :: (12, 12) :: (13, 13) :: (16, 16) :: (17, 17) :: (18, 18) :: (19, 19) :: (20, 20) :: (21, 21) :: (22, 22) :: (23, 23) :: (24, 24) :: (25, 25) :: (26, 26) :: (27, 27) :: (28, 28) :: (29, 29) :: (30, 30) :: (31, 31) :: (32, 32) :: (33, 33) :: (34, 34) :: (35, 35) :: (36, 36) :: (37, 37) :: (38, 38) :: (39, 39) :: (40, 153) :: (41, 154) :: (42, 155) :: (43, 156) :: (44, 157) :: (45, 158) :: (46, 159) :: (47, 160) :: (48, 161) :: (49, 162) :: (50, 163) :: (51, 51) :: (52, 52) :: (53, 53) :: (54, 54) :: (55, 55) :: (56, 56) :: (57, 57) :: (58, 58) :: (59, 59) :: (60, 60) :: (61, 61) :: (62, 62) :: (63, 63) :: (64, 64) :: (65, 65) :: (66, 66) :: (67, 67) :: (68, 68) :: (69, 69) :: (70, 70) :: (71, 71) :: (72, 72) :: (73, 73) :: (74, 74) :: (75, 75) :: (76, 76) :: (77, 77) :: (78, 78) :: (79, 79) :: (80, 80) :: (81, 81) :: (82, 82) :: (83, 83) :: (84, 84) :: (85, 85) :: (86, 86) :: (87, 87) :: (88, 88) :: (89, 89) :: (90, 90) :: (91, 91) :: (92, 92) :: (93, 93) :: (94, 94) :: (98, 98) :: (140, 140) :: (141, 141) :: (142, 142) :: (143, 143) :: (144, 144) :: (145, 145) :: (146, 146) :: (147, 147) :: (148, 148) :: (149, 149) :: (150, 150) :: (151, 151) :: (152, 7) :: (153, 40) :: (154, 41) :: (155, 42) :: (156, 43) :: (157, 44) :: (158, 45) :: (159, 46) :: (160, 47) :: (161, 48) :: (162, 49) :: (163, 50) :: (166, 3) :: (167, 14) :: [])
def zt_rF : Nat → Option Nat := zt ZL_rF
theorem rs_rF_4 {nC nS : Int} : rS zt_rF (SHc nC nS 4) (SHc nC nS 4) := ⟨rfl, rfl, (rE_cons rK_I (rE_cons rK_I (rE_cons rK_I (rE_cons rK_I (rE_cons rK_I (rE_cons rK_I (rE_cons rK_I (rE_cons rK_I rE_nil))))))))⟩
theorem rs_rF_5 {nC nS : Int} : rS zt_rF (SHc nC nS 5) (SHc nC nS 5) := ⟨rfl, rfl, (rE_cons (rK_R (by decide)) (rE_cons (rK_R (by decide)) (rE_cons (rK_R (by decide)) (rE_cons (rK_R (by decide)) (rE_cons (rK_R (by decide)) (rE_cons (rK_R (by decide)) (rE_cons (rK_R (by decide)) (rE_cons (rK_R (by decide)) (rE_cons (rK_R (by decide)) (rE_cons (rK_R (by decide)) (rE_cons (rK_R (by decide)) (rE_cons rK_I (rE_cons rK_I (rE_cons rK_I (rE_cons rK_I rE_nil)))))))))))))))⟩
theorem rs_rF_6 {nC nS : Int} : rS zt_rF (SHc nC nS 6) (SHc nC nS 6) := ⟨rfl, rfl, (rE_cons (rK_R (by decide)) (rE_cons (rK_R (by decide)) (rE_cons (rK_R (by decide)) (rE_cons rK_I (rE_cons rK_I rE_nil)))))⟩
theorem rs_rF_7 {nC nS : Int} : rS zt_rF (SHc nC nS 7) (SHc nC nS 152) := ⟨rfl, rfl, (rE_cons (rK_R (by decide)) (rE_cons (rK_R (by decide)) (rE_cons (rK_R (by decide)) (rE_cons (rK_R (by decide)) (rE_cons (rK_R (by decide)) (rE_cons (rK_R (by decide)) (rE_cons (rK_R (by decide)) (rE_cons (rK_R (by decide)) (rE_cons (rK_R (by decide)) (rE_cons (rK_R (by decide)) (rE_cons (rK_R (by decide)) (rE_cons rK_I (rE_cons rK_I (rE_cons rK_I rE_nil))))))))))))))⟩
theorem rs_rF_8 {nC nS : Int} : rS zt_rF (SHc nC nS 8) (SHc nC nS 8) := ⟨rfl, rfl, (rE_cons (rK_R (by decide)) (rE_cons (rK_R (by decide)) (rE_cons (rK_R (by decide)) (rE_cons (rK_R (by decide)) (rE_cons (rK_R (by decide)) (rE_cons (rK_R (by decide)) (rE_cons (rK_R (by decide)) (rE_cons (rK_R (by decide)) (rE_cons (rK_R (by decide)) (rE_cons (rK_R (by decide)) (rE_cons (rK_R (by decide)) (rE_cons (rK_R (by decide)) (rE_cons rK_I (rE_cons rK_I (rE_cons rK_I (rE_cons rK_I (rE_cons rK_I rE_nil)))))))))))))))))⟩
theorem rs_rF_9 {nC nS : Int} : rS zt_rF (SHc nC nS 9) (SHc nC nS 9) := ⟨rfl, rfl, (rE_cons (rK_R (by decide)) (rE_cons (rK_R (by decide)) (rE_cons rK_I (rE_cons rK_I rE_nil))))⟩
theorem rs_rF_10 {nC nS : Int} : rS zt_rF (SHc nC nS 10) (SHc nC nS 10) := ⟨rfl, rfl, (rE_cons rK_I (rE_cons rK_I (rE_cons rK_I (rE_cons rK_I (rE_cons rK_I (rE_cons rK_I (rE_cons rK_I (rE_cons rK_I (rE_cons rK_I (rE_cons rK_I (rE_cons rK_I (rE_cons rK_I rE_nil))))))))))))⟩
theorem rs_rF_11 {nC nS : Int} : rS zt_rF (SHc nC nS 11) (SHc nC nS 11) := ⟨rfl, rfl, (rE_cons (rK_R (by decide)) (rE_cons (rK_R (by decide)) (rE_cons (rK_R (by decide)) (rE_cons (rK_R (by decide)) (rE_cons (rK_R (by decide)) (rE_cons (rK_R (by decide)) (rE_cons rK_I rE_nil)))))))⟩
theorem rs_rF_12 {nC nS : Int} : rS zt_rF (SHc nC nS 12) (SHc nC nS 12) := ⟨rfl, rfl, (rE_cons (rK_R (by decide)) (rE_cons (rK_R (by decide)) (rE_cons rK_I rE_nil)))⟩
theorem rs_rF_13 {nC nS : Int} : rS zt_rF (SHc nC nS 13) (SHc nC nS 13) := ⟨rfl, rfl, (rE_cons (rK_R (by decide)) (rE_cons (rK_R (by decide)) (rE_cons rK_I (rE_cons rK_I (rE_cons rK_I (rE_cons rK_I (rE_cons rK_I (rE_cons rK_I (rE_cons rK_I (rE_cons rK_I (rE_cons rK_I (rE_cons rK_I rE_nil))))))))))))⟩
theorem rs_rF_16 {nC nS : Int} : rS zt_rF (SHc nC nS 16) (SHc nC nS 16) := ⟨rfl, rfl, (rE_ga rK_I)⟩
theorem rs_rF_17 {nC nS : Int} : rS zt_rF (SHc nC nS 17) (SHc nC nS 17) := ⟨rfl, rfl, (rE_gnb (by decide))⟩
theorem rs_rF_18 {nC nS : Int} : rS zt_rF (SHc nC nS 18) (SHc nC nS 18) := ⟨rfl, rfl, (rE_ga (rK_R (by decide)))⟩
theorem rs_rF_19 {nC nS : Int} : rS zt_rF (SHc nC nS 19) (SHc nC nS 19) := ⟨rfl, rfl, (rE_ga rK_I)⟩
theorem rs_rF_20 {nC nS : Int} : rS zt_rF (SHc nC nS 20) (SHc nC nS 20) := ⟨rfl, rfl, (rE_ga rK_I)⟩
theorem rs_rF_21 {nC nS : Int} : rS zt_rF (SHc nC nS 21) (SHc nC nS 21) := ⟨rfl, rfl, (rE_ga rK_I)⟩
theorem rs_rF_22 {nC nS : Int} : rS zt_rF (SHc nC nS 22) (SHc nC nS 22) := ⟨rfl, rfl, (rE_ga rK_I)⟩
theorem rs_rF_23 {nC nS : Int} : rS zt_rF (SHc nC nS 23) (SHc nC nS 23) := ⟨rfl, rfl, (rE_ga rK_I)⟩
theorem rs_rF_24 {nC nS : Int} : rS zt_rF (SHc nC nS 24) (SHc nC nS 24) := ⟨rfl, rfl, (rE_ga rK_I)⟩
theorem rs_rF_25 {nC nS : Int} : rS zt_rF (SHc nC nS 25) (SHc nC nS 25) := ⟨rfl, rfl, (rE_ga rK_I)⟩
theorem rs_rF_26 {nC nS : Int} : rS zt_rF (SHc nC nS 26) (SHc nC nS 26) := ⟨rfl, rfl, (rE_ga rK_I)⟩
theorem rs_rF_27 {nC nS : Int} : rS zt_rF (SHc nC nS 27) (SHc nC nS 27) := ⟨rfl, rfl, (rE_ga rK_I)⟩
theorem rs_rF_28 {nC nS : Int} : rS zt_rF (SHc nC nS 28) (SHc nC nS 28) := ⟨rfl, rfl, (rE_ga rK_I)⟩
theorem rs_rF_29 {nC nS : Int} : rS zt_rF (SHc nC nS 29) (SHc nC nS 29) := ⟨rfl, rfl, (rE_ga rK_I)⟩
theorem rs_rF_30 {nC nS : Int} : rS zt_rF (SHc nC nS 30) (SHc nC nS 30) := ⟨rfl, rfl, (rE_ga rK_I)⟩
theorem rs_rF_31 {nC nS : Int} : rS zt_rF (SHc nC nS 31) (SHc nC nS 31) := ⟨rfl, rfl, (rE_ga rK_I)⟩
theorem rs_rF_32 {nC nS : Int} : rS zt_rF (SHc nC nS 32) (SHc nC nS 32) := ⟨rfl, rfl, (rE_ga rK_I)⟩
