/-! objects under construction: the tags of a typed heap grow -/
def gM (G G1 : gT) : Prop := ∀ a t : Nat, t < 98 → G a = some t → G1 a = some t
def gU (G : gT) (q t : Nat) : gT := fun a => if a = q then some t else G a
theorem gU_at {G : gT} {q t : Nat} : gU G q t q = some t := if_pos rfl
theorem gU_ne {G : gT} {q t a : Nat} (h : a ≠ q) : gU G q t a = G a := if_neg h
def mK (k : gT → Value → Prop) : Prop := ∀ (G G1 : gT) (v : Value), gM G G1 → k G v → k G1 v
def mE (E : gE) : Prop := ∀ (G G1 : gT) (i : Nat) (v : Value), gM G G1 → E G i v → E G1 i v
def mS : gS → Prop
  | .inl o => mE o.2.2
  | .inr o => mE o.2.2
theorem mK_I {lo hi : Int} : mK (gI lo hi) := fun _ _ _ _ h => h
theorem mK_J : mK gJ := fun _ _ _ _ h => h
theorem mK_R {t : Nat} (ht : t < 98) : mK (gR t) := fun _ _ _ hm ⟨a, h1, h2⟩ => ⟨a, h1, hm a t ht h2⟩
theorem mK_N {t : Nat} (ht : t < 98) : mK (gN t) := fun _ _ _ hm ⟨r, h1, h2⟩ => ⟨r, h1, fun a ha => hm a t ht (h2 a ha)⟩
theorem mK_V : mK gV := fun _ _ _ _ h => h
theorem mE_ga {k : gT → Value → Prop} (h : mK k) : mE (ga k) := fun G G1 _ v hm hv => h G G1 v hm hv
theorem mE_gnb {n : Int} {t : Nat} (ht : t < 98) : mE (gnb n t) := fun G G1 _ v hm hv => ⟨fun hi => mK_R ht G G1 v hm (hv.1 hi), mK_N ht G G1 v hm hv.2⟩
theorem mE_nil : mE (gl []) := fun _ _ _ _ _ _ _ hk => by cases hk
theorem mE_cons {k : gT → Value → Prop} {ks : List (gT → Value → Prop)} (h : mK k) (hs : mE (gl ks)) : mE (gl (k :: ks)) := by
  intro G G1 i v hm hv k' hk'
  cases i with
  | zero =>
    have e : k = k' := Option.some.inj hk'
    subst e
    exact h G G1 v hm (hv k rfl)
  | succ i => exact hs G G1 i v hm (fun k2 h2 => hv k2 h2) k' hk'
theorem mS_nil {t : Nat} {D : gS} (hD : mS D) : mS (([] : List gS).getD t D) := hD
theorem mS_cons {sh : gS} {l : List gS} {D : gS} (h : mS sh) (hl : ∀ t, mS (l.getD t D)) : ∀ t, mS ((sh :: l).getD t D)
  | 0 => h
  | t + 1 => hl t
theorem mS_ite {t u : Nat} {a b : gS} (ha : mS a) (hb : mS b) : mS (if t = u then a else b) := by
  by_cases h : t = u
  · rw [if_pos h]; exact ha
  · rw [if_neg h]; exact hb
theorem gC.mono {D : va_G} {kA : Nat → ClassId} {sh : gS} {G G1 : gT} {a : Nat} {H : Heap} (hm : mS sh) (hG : gM G G1) (h : gC D kA sh G a H) : gC D kA sh G1 a H := by
  cases sh with
  | inl o =>
    obtain ⟨V, h1, h2⟩ := h
    exact ⟨V, h1, fun k hk => hm G G1 k (V k) hG (h2 k hk)⟩
  | inr o =>
    obtain ⟨V, h1, h2⟩ := h
    exact ⟨V, h1, fun k hk => hm G G1 k (V k) hG (h2 k hk)⟩
theorem gC.lt {D : va_G} {kA : Nat → ClassId} {sh : gS} {G : gT} {a : Nat} {H : Heap} (h : gC D kA sh G a H) : a < H.size := by
  cases sh with
  | inl o => obtain ⟨V, ⟨cell, q1, -⟩, -⟩ := h; exact (Array.getElem?_eq_some_iff.mp q1).1
  | inr o => obtain ⟨V, q1, -⟩ := h; exact (Array.getElem?_eq_some_iff.mp q1).1
theorem gH.lt {D : va_G} {kA : Nat → ClassId} {Sg : Nat → gS} {G : gT} {H : Heap} {a t : Nat} (h : gH D kA Sg G H) (ha : G a = some t) : a < H.size := (h a t ha).lt
theorem gM_add {G : gT} {q t : Nat} (hq : G q = none) : gM G (gU G q t) := fun a u _ h => by
  rw [gU_ne (fun e => by rw [e, hq] at h; cases h)]; exact h
theorem gM_re {G : gT} {q t y : Nat} (hq : G q = some y) (hy : 98 ≤ y) : gM G (gU G q t) := fun a u hu h => by
  by_cases e : a = q
  · subst e
    have : y = u := Option.some.inj (hq.symm.trans h)
    omega
  · rw [gU_ne e]; exact h
theorem gM.tr {G G1 G2 : gT} (h : gM G G1) (h1 : gM G1 G2) : gM G G2 := fun a t ht ha => h1 a t ht (h a t ht ha)
/-- one more cell has a tag -/
theorem gH.add {D : va_G} {kA : Nat → ClassId} {Sg : Nat → gS} {G : gT} {H H1 : Heap} {q t : Nat} (hmon : ∀ t, mS (Sg t)) (hT : gH D kA Sg G H) (hq : G q = none) (o1 : ∀ a, a < H.size → a ≠ q → H1[a]? = H[a]?) (hc : gC D kA (Sg t) (gU G q t) q H1) : gH D kA Sg (gU G q t) H1 := by
  intro a u ha
  by_cases e : a = q
  · subst e
    rw [gU_at] at ha
    cases ha
    exact hc
  · rw [gU_ne e] at ha
    exact ((hT a u ha).kept (o1 a (hT.lt ha) e)).mono (hmon u) (gM_add hq)
/-- a young cell is grown up -/
theorem gH.grown {D : va_G} {kA : Nat → ClassId} {Sg : Nat → gS} {G : gT} {H : Heap} {q t y : Nat} (hmon : ∀ t, mS (Sg t)) (hT : gH D kA Sg G H) (hq : G q = some y) (hy : 98 ≤ y) (hc : gC D kA (Sg t) (gU G q t) q H) : gH D kA Sg (gU G q t) H := by
  intro a u ha
  by_cases e : a = q
  · subst e
    rw [gU_at] at ha
    cases ha
    exact hc
  · rw [gU_ne e] at ha
    exact (hT a u ha).mono (hmon u) (gM_re hq hy)
/-- a young object whose places are as a grown one's -/
theorem gC.grow {D : va_G} {kA : Nat → ClassId} {G : gT} {H : Heap} {q ci N : Nat} {E E1 : gE} (h : gC D kA (.inl (ci, N, E)) G q H) (hk : ∀ k v, k < N → el H q (D.2 ci k) = some v → E G k v → E1 (gU G q ci) k v) : gC D kA (.inl (ci, N, E1)) (gU G q ci) q H := by
  obtain ⟨V, ⟨cell, q1, q2, q3, q4⟩, h2⟩ := h
  refine ⟨V, ⟨cell, q1, q2, q3, q4⟩, fun k hk' => hk k (V k) hk' ?_ (h2 k hk')⟩
  unfold el
  rw [q1]
  exact q4 k hk'
theorem gC.grow_arr {D : va_G} {kA : Nat → ClassId} {G : gT} {H : Heap} {q j n t : Nat} {E E1 : gE} (h : gC D kA (.inr (j, n, E)) G q H) (hk : ∀ k v, k < n → el H q k = some v → E G k v → E1 (gU G q t) k v) : gC D kA (.inr (j, n, E1)) (gU G q t) q H := by
  obtain ⟨V, q1, h2⟩ := h
  refine ⟨V, q1, fun k hk' => hk k (V k) hk' ?_ (h2 k hk')⟩
  unfold el
  rw [q1]
  exact arrV_read _ _ hk'
theorem gF.sub {D : va_G} {Sk : Nat → gS} {G G1 : gT} {M : List (Nat × Nat)} {H0 H : Heap} (h : gF D Sk G1 M H0 H) (hs : ∀ a t, G a = some t → G1 a = some t) : gF D Sk G M H0 H := fun a t ha => h a t (hs a t ha)
theorem gF.same {D : va_G} {Sk : Nat → gS} {G : gT} {M : List (Nat × Nat)} {H0 H H1 : Heap} (h : gF D Sk G M H0 H) (ho : ∀ a t, G a = some t → H1[a]? = H[a]?) : gF D Sk G M H0 H1 := by
  intro a t ha
  have q := h a t ha
  revert q
  cases Sk t with
  | inl o => exact fun q k hk hn => (el_kept (ho a t ha)).trans (q k hk hn)
  | inr o => exact fun q hn => (ho a t ha).trans (q hn)
/-- what a constructor of o leaves: all that had a tag is as before but o; o has the tag T; the other new tags are of L, at new places -/
def gY (L : List Nat) (T o : Nat) (G0 G : gT) (H0 H : Heap) : Prop := (∀ a u, a ≠ o → G0 a = some u → G a = some u ∧ H[a]? = H0[a]?) ∧ (∀ a u, G a = some u → G0 a = some u ∨ (a = o ∧ u = T) ∨ (H0.size ≤ a ∧ u ∈ L)) ∧ (∀ a u, G0 a = some u → a < H0.size)
theorem gY.rf {D : va_G} {kA : Nat → ClassId} {Sg : Nat → gS} {L : List Nat} {T o : Nat} {G : gT} {H : Heap} (hT : gH D kA Sg G H) : gY L T o G G H H := ⟨fun _ _ _ h => ⟨h, rfl⟩, fun _ _ h => Or.inl h, fun _ _ h => hT.lt h⟩
theorem gY.new {L : List Nat} {T o q t : Nat} {G0 G G1 : gT} {H0 H H1 : Heap} (h : gY L T o G0 G H0 H) (hz : H0.size ≤ q) (e : G1 = gU G q t) (hx : ∀ a u, G a = some u → G1 a = some u ∧ H1[a]? = H[a]?) (ht : t ∈ L) : gY L T o G0 G1 H0 H1 := by
  refine ⟨fun a u ha h0 => ?_, fun a u ha => ?_, h.2.2⟩
  · obtain ⟨h1, h2⟩ := h.1 a u ha h0
    obtain ⟨h3, h4⟩ := hx a u h1
    exact ⟨h3, h4.trans h2⟩
  · subst e
    by_cases e9 : a = q
    · subst e9
      rw [gU_at] at ha
      cases ha
      exact Or.inr (Or.inr ⟨hz, ht⟩)
    · rw [gU_ne e9] at ha
      exact h.2.1 a u ha
theorem gY.put {L : List Nat} {T o : Nat} {G0 G : gT} {H0 H H1 : Heap} (h : gY L T o G0 G H0 H) (oq : ∀ q, q ≠ o → H1[q]? = H[q]?) : gY L T o G0 G H0 H1 := ⟨fun a u ha h0 => ⟨(h.1 a u ha h0).1, (oq a ha).trans (h.1 a u ha h0).2⟩, h.2⟩
theorem gY.put1 {L : List Nat} {T o b : Nat} {G0 G : gT} {H0 H H1 : Heap} (h : gY L T o G0 G H0 H) (hb : H0.size ≤ b) (oq : ∀ q, q < H0.size → q ≠ b → H1[q]? = H[q]?) : gY L T o G0 G H0 H1 := ⟨fun a u ha h0 => ⟨(h.1 a u ha h0).1, (oq a (h.2.2 a u h0) (fun e => by have := h.2.2 a u h0; omega)).trans (h.1 a u ha h0).2⟩, h.2⟩
theorem gY.call {L L1 : List Nat} {T T1 o b : Nat} {G0 G G1 : gT} {H0 H H1 : Heap} (h : gY L T o G0 G H0 H) (hb : H0.size ≤ b) (h1 : gY L1 T1 b G G1 H H1) (hz : H0.size ≤ H.size) (hL : ∀ x ∈ T1 :: L1, x ∈ L) : gY L T o G0 G1 H0 H1 := by
  refine ⟨fun a u ha h0 => ?_, fun a u ha => ?_, h.2.2⟩
  · obtain ⟨g1, g2⟩ := h.1 a u ha h0
    have hl := h.2.2 a u h0
    obtain ⟨g3, g4⟩ := h1.1 a u (fun e => by omega) g1
    exact ⟨g3, g4.trans g2⟩
  · rcases h1.2.1 a u ha with g | ⟨g, gl⟩ | ⟨g, gl⟩
    · exact h.2.1 a u g
    · exact Or.inr (Or.inr ⟨by rw [g]; exact hb, hL u (by rw [gl]; exact List.mem_cons_self)⟩)
    · exact Or.inr (Or.inr ⟨Nat.le_trans hz g, hL u (List.mem_cons_of_mem _ gl)⟩)
theorem gY.grow {L : List Nat} {T o : Nat} {G0 G : gT} {H0 H : Heap} (h : gY L T o G0 G H0 H) : gY L T o G0 (gU G o T) H0 H := by
  refine ⟨fun a u ha h0 => ⟨by rw [gU_ne ha]; exact (h.1 a u ha h0).1, (h.1 a u ha h0).2⟩, fun a u ha => ?_, h.2.2⟩
  by_cases e : a = o
  · subst e
    rw [gU_at] at ha
    cases ha
    exact Or.inr (Or.inl ⟨rfl, rfl⟩)
  · rw [gU_ne e] at ha
    exact h.2.1 a u ha
theorem gY.grow1 {L : List Nat} {T o b t : Nat} {G0 G : gT} {H0 H : Heap} (h : gY L T o G0 G H0 H) (hb : H0.size ≤ b) (ht : t ∈ L) : gY L T o G0 (gU G b t) H0 H := by
  refine ⟨fun a u ha h0 => ⟨by rw [gU_ne (fun e => by have := h.2.2 a u h0; omega)]; exact (h.1 a u ha h0).1, (h.1 a u ha h0).2⟩, fun a u ha => ?_, h.2.2⟩
  by_cases e : a = b
  · subst e
    rw [gU_at] at ha
    cases ha
    exact Or.inr (Or.inr ⟨hb, ht⟩)
  · rw [gU_ne e] at ha
    exact h.2.1 a u ha
theorem gY.A {L : List Nat} {T o : Nat} {G0 G : gT} {H0 H : Heap} {A : Nat → Prop} (h : gY L T o G0 G H0 H) (hG : ∀ q t, G0 q = some t → A q) (ho : A o) (hA : ∀ q, H0.size ≤ q → A q) : ∀ q t, G q = some t → A q := by
  intro q t hq
  rcases h.2.1 q t hq with g | ⟨g, -⟩ | ⟨g, -⟩
  · exact hG q t g
  · rw [g]; exact ho
  · exact hA q g
/-- where a tag stands -/
theorem gT_new {P : Nat → Prop} {G G1 : gT} {q t u : Nat} (h : ∀ b, G b = some u → P b) (e : G1 = gU G q t) (ht : t ≠ u) : ∀ b, G1 b = some u → P b := by
  intro b hb
  subst e
  by_cases e9 : b = q
  · subst e9
    rw [gU_at] at hb
    exact absurd (Option.some.inj hb) ht
  · rw [gU_ne e9] at hb
    exact h b hb
theorem gT_new1 {P : Nat → Prop} {G G1 : gT} {q t u : Nat} (h : ∀ b, G b = some u → P b) (e : G1 = gU G q t) : ∀ b, G1 b = some u → P b ∨ b = q := by
  intro b hb
  subst e
  by_cases e9 : b = q
  · exact Or.inr e9
  · rw [gU_ne e9] at hb
    exact Or.inl (h b hb)
theorem gT_call {P : Nat → Prop} {L1 : List Nat} {T1 o u : Nat} {G G1 : gT} {H H1 : Heap} (h : ∀ b, G b = some u → P b) (h1 : gY L1 T1 o G G1 H H1) (hl : u ∉ T1 :: L1) : ∀ b, G1 b = some u → P b := by
  intro b hb
  rcases h1.2.1 b u hb with g | ⟨-, g⟩ | ⟨-, g⟩
  · exact h b g
  · exact absurd (by rw [g]; exact List.mem_cons_self) hl
  · exact absurd (List.mem_cons_of_mem _ g) hl
theorem gT_call1 {P : Nat → Prop} {L1 : List Nat} {o u : Nat} {G G1 : gT} {H H1 : Heap} (h : ∀ b, G b = some u → P b) (h1 : gY L1 u o G G1 H H1) (hl : u ∉ L1) : ∀ b, G1 b = some u → P b ∨ b = o := by
  intro b hb
  rcases h1.2.1 b u hb with g | ⟨g, -⟩ | ⟨-, g⟩
  · exact Or.inl (h b g)
  · exact Or.inr g
  · exact absurd g hl
theorem gT_call2 {P : Nat → Prop} {u w : Nat} {G G1 : gT} (h : ∀ b, G b = some u → P b) (h1 : ∀ b, G1 b = some u → G b = some u ∨ b = w) : ∀ b, G1 b = some u → P b ∨ b = w := fun b hb => (h1 b hb).imp (h b) id
theorem gH.one {D : va_G} {kA : Nat → ClassId} {Sg : Nat → gS} {G : gT} {H : Heap} {a t j n : Nat} {E : gE} (hT : gH D kA Sg G H) (ha : G a = some t) (hs : Sg t = .inr (j, n, E)) (hi : ∀ (G G' : gT) (k : Nat) (v : Value), E G k v → E G' k v) : gH D kA Sg (gU (fun _ => none) a t) H := by
  intro b u hb
  by_cases e : b = a
  · subst e
    rw [gU_at] at hb
    cases hb
    have h := hT b t ha
    rw [hs] at h ⊢
    obtain ⟨V, h1, h2⟩ := h
    exact ⟨V, h1, fun k hk => hi _ _ k (V k) (h2 k hk)⟩
  · rw [gU_ne e] at hb
    cases hb
theorem gH.back {D : va_G} {kA : Nat → ClassId} {Sg : Nat → gS} {G : gT} {H H1 : Heap} {a t j n : Nat} {E : gE} (hT : gH D kA Sg G H) (ha : G a = some t) (hs : Sg t = .inr (j, n, E)) (hi : ∀ (G G' : gT) (k : Nat) (v : Value), E G k v → E G' k v) (h1 : gH D kA Sg (gU (fun _ => none) a t) H1) (oq : ∀ q, q < H.size → q ≠ a → H1[q]? = H[q]?) : gH D kA Sg G H1 := by
  intro b u hb
  by_cases e : b = a
  · subst e
    have : u = t := Option.some.inj (hb.symm.trans ha)
    subst this
    have h := h1 b u gU_at
    rw [hs] at h ⊢
    obtain ⟨V, g1, g2⟩ := h
    exact ⟨V, g1, fun k hk => hi _ _ k (V k) (g2 k hk)⟩
  · exact (hT b u hb).kept (oq b (hT.lt hb) e)
theorem gA_one {a t sz : Nat} {A : Nat → Prop} (ha : A a) (h : ∀ q, sz ≤ q → A q) : ∀ q, gA (gU (fun _ => none) a t) sz q → A q := by
  rintro q (⟨u, hu⟩ | hu)
  · by_cases e : q = a
    · rw [e]; exact ha
    · rw [gU_ne e] at hu; cases hu
  · exact h q hu
theorem gA_not {a t sz q : Nat} (hq : q < sz) (hn : q ≠ a) : ¬ gA (gU (fun _ => none) a t) sz q := by
  rintro (⟨u, hu⟩ | hu)
  · rw [gU_ne hn] at hu; cases hu
  · omega
def aoT : List String := ["SeaLand$Settler", "SeaLand$Contract", "SeaLand$Work"]
def AO (U : State) : Prop := ∀ C ∈ aoT, va_AO C U
theorem AO.blind {U : State} (g : JFrame) (mk : MethodId) (a : Array Value) (h : AO U) : AO (U.calling g mk a) := fun C hC => va_AO.moved (u := U) (Vm.Alike.refl U.vm) (h C hC)
theorem AO.call {s U : State} (h : AO s) (hW : s.WarmedH U.vm) : AO U := fun C hC => va_AO.moved hW.alike (h C hC)
/-- tags that only grow: the new ones are of L, and stand at new places -/
def gZ (L : List Nat) (z : Nat) (G0 G : gT) : Prop := (∀ a u, G0 a = some u → G a = some u) ∧ (∀ a u, G a = some u → G0 a = some u ∨ (z ≤ a ∧ u ∈ L)) ∧ (∀ a u, G0 a = some u → a < z)
theorem gZ.rf {D : va_G} {kA : Nat → ClassId} {Sg : Nat → gS} {L : List Nat} {G : gT} {H : Heap} (hT : gH D kA Sg G H) : gZ L H.size G G := ⟨fun _ _ h => h, fun _ _ h => Or.inl h, fun _ _ h => hT.lt h⟩
theorem gZ.new {L : List Nat} {q t z : Nat} {G0 G G1 : gT} {H H1 : Heap} (h : gZ L z G0 G) (hz : z ≤ q) (e : G1 = gU G q t) (hx : ∀ a u, G a = some u → G1 a = some u ∧ H1[a]? = H[a]?) (ht : t ∈ L) : gZ L z G0 G1 := by
  refine ⟨fun a u h0 => (hx a u (h.1 a u h0)).1, fun a u ha => ?_, h.2.2⟩
  subst e
  by_cases e9 : a = q
  · subst e9
    rw [gU_at] at ha
    cases ha
    exact Or.inr ⟨hz, ht⟩
  · rw [gU_ne e9] at ha
    exact h.2.1 a u ha
theorem gZ.call {L L1 : List Nat} {T1 b z : Nat} {G0 G G1 : gT} {H H1 : Heap} (h : gZ L z G0 G) (hb : z ≤ b) (h1 : gY L1 T1 b G G1 H H1) (hz : z ≤ H.size) (hL : ∀ x ∈ T1 :: L1, x ∈ L) : gZ L z G0 G1 := by
  refine ⟨fun a u h0 => (h1.1 a u (fun e => by have := h.2.2 a u h0; omega) (h.1 a u h0)).1, fun a u ha => ?_, h.2.2⟩
  rcases h1.2.1 a u ha with g | ⟨g, gl⟩ | ⟨g, gl⟩
  · exact h.2.1 a u g
  · exact Or.inr ⟨by rw [g]; exact hb, hL u (by rw [gl]; exact List.mem_cons_self)⟩
  · exact Or.inr ⟨Nat.le_trans hz g, hL u (List.mem_cons_of_mem _ gl)⟩
theorem gZ.kept {L L1 : List Nat} {T1 b z : Nat} {G0 G G1 : gT} {H H1 : Heap} (h : gZ L z G0 G) (hb : z ≤ b) (h1 : gY L1 T1 b G G1 H H1) : ∀ a u, G0 a = some u → H1[a]? = H[a]? := fun a u h0 => (h1.1 a u (fun e => by have := h.2.2 a u h0; omega) (h.1 a u h0)).2
theorem gZ.A {L : List Nat} {z : Nat} {G0 G : gT} {A : Nat → Prop} (h : gZ L z G0 G) (hG : ∀ q t, G0 q = some t → A q) (hA : ∀ q, z ≤ q → A q) : ∀ q t, G q = some t → A q := by
  intro q t hq
  rcases h.2.1 q t hq with g | ⟨g, -⟩
  · exact hG q t g
  · exact hA q g
/-- a tag that isn't of L has its old places alone -/
theorem gZ.uniq {L : List Nat} {z o t : Nat} {G0 G : gT} (h : gZ L z G0 G) (hu : ∀ a, G0 a = some t → a = o) (ht : t ∉ L) : ∀ a, G a = some t → a = o := by
  intro a ha
  rcases h.2.1 a t ha with g | ⟨-, g⟩
  · exact hu a g
  · exact absurd g ht
theorem gF.putX {D : va_G} {Sk : Nat → gS} {G Gn : gT} {M : List (Nat × Nat)} {H0 H H1 : Heap} {a t ci N k : Nat} {E : gE} (hX : ∀ a u, G a = some u → Gn a = some u) (h : gF D Sk G M H0 H) (ha : Gn a = some t) (hs : Sk t = .inl (ci, N, E)) (oq : ∀ q, q ≠ a → H1[q]? = H[q]?) (oj : ∀ j, j < N → j ≠ k → el H1 a (D.2 ci j) = el H a (D.2 ci j)) (hm : (t, k) ∈ M) : gF D Sk G M H0 H1 := by
  refine h.more (M1 := [(t, k)]) ?_ (fun x hx => by rw [List.mem_singleton.mp hx]; exact hm)
  intro b u hb
  by_cases e : b = a
  · subst e
    have : u = t := Option.some.inj ((hX b u hb).symm.trans ha)
    subst this
    rw [hs]
    exact fun j hj hn => oj j hj (fun z => hn (by rw [z]; exact List.mem_singleton.mpr rfl))
  · cases Sk u with
    | inl o => exact fun _ _ _ => el_kept (oq b e)
    | inr o => exact fun _ => oq b e
theorem gF.astX {D : va_G} {Sk : Nat → gS} {G Gn : gT} {M : List (Nat × Nat)} {H0 H H1 : Heap} {a t j n : Nat} {E : gE} (hX : ∀ a u, G a = some u → Gn a = some u) (h : gF D Sk G M H0 H) (ha : Gn a = some t) (hs : Sk t = .inr (j, n, E)) (oq : ∀ q, q ≠ a → H1[q]? = H[q]?) (hm : (t, 0) ∈ M) : gF D Sk G M H0 H1 := by
  refine h.more (M1 := [(t, 0)]) ?_ (fun x hx => by rw [List.mem_singleton.mp hx]; exact hm)
  intro b u hb
  by_cases e : b = a
  · subst e
    have : u = t := Option.some.inj ((hX b u hb).symm.trans ha)
    subst this
    rw [hs]
    exact fun hn => absurd (List.mem_singleton.mpr rfl) hn
  · cases Sk u with
    | inl o => exact fun _ _ _ => el_kept (oq b e)
    | inr o => exact fun _ => oq b e
theorem gC.gnb1 {D : va_G} {kA : Nat → ClassId} {G : gT} {H : Heap} {a j n t k0 b : Nat} {m : Int} (h : gC D kA (.inr (j, n, gnb m t)) G a H) (hk : (k0 : Int) = m) (he : el H a k0 = some (.ref b)) (hb : G b = some t) : gC D kA (.inr (j, n, gnb (m + 1) t)) G a H := by
  obtain ⟨V, q1, h2⟩ := h
  refine ⟨V, q1, fun k hkn => ⟨fun hlt => ?_, (h2 k hkn).2⟩⟩
  by_cases e : k = k0
  · subst e
    have hv : el H a k = some (V k) := by
      unfold el
      rw [q1]
      exact arrV_read _ _ hkn
    have : V k = .ref b := Option.some.inj (hv.symm.trans he)
    rw [this]
    exact ⟨b, rfl, hb⟩
  · exact (h2 k hkn).1 (by omega)
theorem gl_set {ks : List (gT → Value → Prop)} {i : Nat} {k : gT → Value → Prop} {G : gT} {j : Nat} {v : Value} (hn : j ≠ i) (h : gl ks G j v) : gl (ks.set i k) G j v := fun k' hk' => h k' (by rw [List.getElem?_set_ne (Ne.symm hn)] at hk'; exact hk')
section TWY
variable {p : Program} {l : Launch} {e : Env} {R : Room} {s : State} {m : MethodId} {args : Array Value} {below : List Frame} {meth : Method} {c : Code} {H : Heap} {locs : List Loc} {cells slots : Nat} {Q : State → Prop}
variable {cc : ByteArray} {pc : Nat} {ls : Array Slot} {rest : List Value} {D : va_G} {cl : List vw_C} {A : Nat → Prop} {a : Nat} {tys : List (ClassId × FieldType)} {H0 : Heap} {kA : Nat → ClassId} {Sg : Nat → gS} {G : gT} {t : Nat} {E : gE}
theorem tw_new (hexec : p.tables.exec = Jvm.exec) (hb : c.code = cc) {own C : String} {T : u_T} {N ci index : Nat} {Ts : List Cond} (hts : ∀ w ∈ Ts, w.before args s = true) (hin : ∀ w ∈ u_ws C T N, w ∈ Ts) (ty : Nat → FieldType) (hty : ∀ k, k < N → parseFieldDescriptor (T k).2.2.1 = some (ty k)) (hown : s.vm.findClass own = some m.cls) (hcl : (Cond.classLink own index C).before args s = true) (hinst : (Cond.instantiable C N).before args s = true) (hini : (Cond.initialized C).before args s = true)
    (hK : va_K D cl tys s) (hmon : ∀ t, mS (Sg t)) (hT : gH D kA Sg G H) (hS : va_S A H0 H locs) (hG : ∀ q t, G q = some t → A q) (hA : ∀ q, H0.size ≤ q → A q) (hs : Sg t = .inl (ci, N, E)) (hc : cl[ci]? = some (C, T, N)) (hE : ∀ (G : gT) (k : Nat), k < N → E G k (defaultValue (ty k))) (hcells : cells + 1 ≤ R.cells) (hslots : slots + N ≤ R.slots) (hdg : decode cc pc = .ok (.new index, 3))
    (kk : ∀ (q : Nat) (G1 : gT) (H1 : Heap), G q = none → G1 = gU G q t → H1.size = q + 1 → H.size = q → gH D kA Sg G1 H1 → (∀ a u, G a = some u → G1 a = some u ∧ H1[a]? = H[a]?) → (∀ q t, G1 q = some t → A q) → (∀ k, k < N → el H1 q (D.2 ci k) = some (defaultValue (ty k))) → va_S A H0 H1 locs →
      W p l e R s m args below meth c H1 locs (cells + 1) (slots + N) Q (F0 m (pc + 3) ls (.ref q :: rest))) : W p l e R s m args below meth c H locs cells slots Q (F0 m pc ls rest) := by
  have hKn := hK.1 ci _ hc
  refine W.newcK hexec hb hown hcl hinst hini rfl hdg hcells hslots hKn.2.1 rfl fun H1 kC hkC e1 z1 o1 => ?_
  have hq : G H.size = none := by
    cases h : G H.size with
    | none => rfl
    | some u => exact absurd (hT.lt h) (Nat.lt_irrefl _)
  obtain ⟨cell, q1, q2, q3, q4⟩ := u_born ty hts hin hKn hkC e1 hty
  refine kk H.size (gU G H.size t) H1 hq rfl z1 rfl (hT.add hmon hq (fun a ha _ => o1 a ha) ?_) (fun a u ha => ⟨by rw [gU_ne (Nat.ne_of_lt (hT.lt ha))]; exact ha, o1 a (hT.lt ha)⟩) (fun a u ha => ?_) (fun k hk => ?_) ⟨Nat.le_trans hS.1 (by omega), fun x h1 h2 => (o1 x (Nat.lt_of_lt_of_le h1 hS.1)).trans (hS.2.1 x h1 h2), hS.2.2⟩
  · rw [hs]
    exact ⟨fun k => defaultValue (ty k), ⟨cell, q1, q2, q3, q4⟩, fun k hk => hE _ k hk⟩
  · by_cases e9 : a = H.size
    · rw [e9]; exact hA _ hS.1
    · rw [gU_ne e9] at ha; exact hG a u ha
  · unfold el
    rw [q1]
    exact q4 k hk
theorem tw_pushed {j n : Nat} {z : Value} {H1 : Heap} {cA : ClassId} (hmon : ∀ t, mS (Sg t)) (hT : gH D kA Sg G H) (hS : va_S A H0 H locs) (hG : ∀ q t, G q = some t → A q) (hA : ∀ q, H0.size ≤ q → A q) (hs : Sg t = .inr (j, n, E)) (hE : ∀ (G : gT) (k : Nat), k < n → E G k z) (hc : cA = kA j) (e1 : H1[H.size]? = some (arrV cA n (fun _ => z))) (z1 : H1.size = H.size + 1) (o1 : ∀ q, q < H.size → H1[q]? = H[q]?) :
    G H.size = none ∧ gH D kA Sg (gU G H.size t) H1 ∧ (∀ a u, G a = some u → gU G H.size t a = some u ∧ H1[a]? = H[a]?) ∧ (∀ q u, gU G H.size t q = some u → A q) ∧ va_S A H0 H1 locs ∧ ∀ k, k < n → el H1 H.size k = some z := by
  have hq : G H.size = none := by
    cases h : G H.size with
    | none => rfl
    | some u => exact absurd (hT.lt h) (Nat.lt_irrefl _)
  subst hc
  refine ⟨hq, hT.add hmon hq (fun a ha _ => o1 a ha) ?_, fun a u ha => ⟨by rw [gU_ne (Nat.ne_of_lt (hT.lt ha))]; exact ha, o1 a (hT.lt ha)⟩, fun a u ha => ?_, ⟨Nat.le_trans hS.1 (by omega), fun x h1 h2 => (o1 x (Nat.lt_of_lt_of_le h1 hS.1)).trans (hS.2.1 x h1 h2), hS.2.2⟩, fun k hk => ?_⟩
  · rw [hs]
    exact ⟨fun _ => z, e1, fun k hk => hE _ k hk⟩
  · by_cases e9 : a = H.size
    · rw [e9]; exact hA _ hS.1
    · rw [gU_ne e9] at ha; exact hG a u ha
  · unfold el
    rw [e1]
    exact arrV_read _ _ hk
theorem tw_newa (hexec : p.tables.exec = Jvm.exec) (hb : c.code = cc) {atype : ArrayType} (harr : (Cond.arrayClass (newarray.typeOf atype)).before args s = true) {ty : FieldType} (hty : newarray.typeOf atype = ty) (hK : va_K D cl tys s) (hmon : ∀ t, mS (Sg t)) (hT : gH D kA Sg G H) (hS : va_S A H0 H locs) (hG : ∀ q t, G q = some t → A q) (hA : ∀ q, H0.size ≤ q → A q) {j n : Nat} (hs : Sg t = .inr (j, n, E)) (ht : tys[j]? = some (kA j, ty)) (hE : ∀ (G : gT) (k : Nat), k < n → E G k (defaultValue ty))
    {i : Int32} (hn : ¬ i < 0) (hN : i.toNatClampNeg = n) (hbytes : n * componentBytes ty ≤ 536870912) (hcells : cells + 1 ≤ R.cells) (hslots : slots + n ≤ R.slots) (hdg : decode cc pc = .ok (.newarray atype, 2))
    (kk : ∀ (q : Nat) (G1 : gT) (H1 : Heap), G q = none → G1 = gU G q t → H1.size = q + 1 → H.size = q → gH D kA Sg G1 H1 → (∀ a u, G a = some u → G1 a = some u ∧ H1[a]? = H[a]?) → (∀ q t, G1 q = some t → A q) → (∀ k, k < n → el H1 q k = some (defaultValue ty)) → va_S A H0 H1 locs →
      W p l e R s m args below meth c H1 locs (cells + 1) (slots + n) Q (F0 m (pc + 2) ls (.ref q :: rest))) : W p l e R s m args below meth c H locs cells slots Q (F0 m pc ls (.int i :: rest)) := by
  subst hty
  refine va_newaK hexec hb harr rfl hdg rfl hn hN hbytes hcells hslots rfl fun H1 cA e1 z1 o1 hAr hNm => ?_
  have hc : cA = kA j := by
    have h9 := (hK.2 j _ ht).2
    have h8 : s.vm.findClass ("[" ++ (newarray.typeOf atype).toString) = some (kA j) := by
      revert h9
      cases atype <;> exact fun h => h
    exact Option.some.inj (hNm.symm.trans h8)
  obtain ⟨h1, h2, h3, h4, h5, h6⟩ := tw_pushed hmon hT hS hG hA hs hE hc e1 z1 o1
  exact kk H.size _ H1 h1 rfl z1 rfl h2 h3 h4 h6 h5
theorem tw_newq (hexec : p.tables.exec = Jvm.exec) (hb : c.code = cc) {own C : String} {index : Nat} (hown : s.vm.findClass own = some m.cls) (hclink : (Cond.classLink own index C).before args s = true) (hover : va_AO C s) (hK : va_K D cl tys s) (hmon : ∀ t, mS (Sg t)) (hT : gH D kA Sg G H) (hS : va_S A H0 H locs) (hG : ∀ q t, G q = some t → A q) (hA : ∀ q, H0.size ≤ q → A q) {j n : Nat} (hs : Sg t = .inr (j, n, E)) (ht : tys[j]? = some (kA j, .object C)) (hE : ∀ (G : gT) (k : Nat), k < n → E G k .null)
    {i : Int32} (hn : ¬ i < 0) (hN : i.toNatClampNeg = n) (hbytes : n * 4 ≤ 536870912) (hcells : cells + 1 ≤ R.cells) (hslots : slots + n ≤ R.slots) (hdg : decode cc pc = .ok (.anewarray index, 3))
    (kk : ∀ (q : Nat) (G1 : gT) (H1 : Heap), G q = none → G1 = gU G q t → H1.size = q + 1 → H.size = q → gH D kA Sg G1 H1 → (∀ a u, G a = some u → G1 a = some u ∧ H1[a]? = H[a]?) → (∀ q t, G1 q = some t → A q) → (∀ k, k < n → el H1 q k = some .null) → va_S A H0 H1 locs →
      W p l e R s m args below meth c H1 locs (cells + 1) (slots + n) Q (F0 m (pc + 3) ls (.ref q :: rest))) : W p l e R s m args below meth c H locs cells slots Q (F0 m pc ls (.int i :: rest)) := by
  subst hN
  refine W.anew hexec hb hown hclink (va_AO.use hover) rfl hdg rfl hn hbytes hcells hslots fun cA k9 comp f1 f2 f3 f4 => ?_
  generalize hH1 : H.push ({ cls := cA, slots := Array.replicate i.toNatClampNeg .null, vm := .none } : Cell) = H1
  have z1 : H1.size = H.size + 1 := by rw [← hH1, Array.size_push]
  have e1 : H1[H.size]? = some (arrV cA i.toNatClampNeg (fun _ => .null)) := by rw [← hH1, Array.getElem?_push_size, ← arrV_new]
  have o1 : ∀ q : Nat, q < H.size → H1[q]? = H[q]? := fun q hq => by rw [← hH1, Array.getElem?_push, if_neg (Nat.ne_of_lt hq)]
  have hc : cA = kA j := by
    obtain ⟨k8, comp8, g1, g2, g3, g4⟩ := (hK.2 j _ ht).2
    exact Option.some.inj (f1.symm.trans g4)
  obtain ⟨h1, h2, h3, h4, h5, h6⟩ := tw_pushed hmon hT hS hG hA hs hE hc e1 z1 o1
  exact kk H.size _ H1 h1 rfl z1 rfl h2 h3 h4 h6 h5
theorem tw_putF (hexec : p.tables.exec = Jvm.exec) (hb : c.code = cc) {own ref C : String} {T : u_T} {N ci index : Nat} {Ts : List Cond} (hts : ∀ w ∈ Ts, w.before args s = true) (hin : ∀ w ∈ u_ws C T N, w ∈ Ts) (ty0 : Nat → FieldType) (hty : ∀ k, k < N → parseFieldDescriptor (T k).2.2.1 = some (ty0 k)) (hnm : ∀ a, a < N → ∀ b, b < N → a ≠ b → (T a).2.1 ≠ (T b).2.1) (hown : s.vm.findClass own = some m.cls) (hK : va_K D cl tys s) (hT : gH D kA Sg G H) (hG : ∀ q t, G q = some t → A q) (hS0 : va_S A H0 H locs) (ha : G a = some t) (hs : Sg t = .inl (ci, N, E)) (hc : cl[ci]? = some (C, T, N)) (k : Nat) (hk : k < N) (hlink : (Cond.fieldLink own index ref (T k).2.1 (T k).2.2.1).before args s = true) (hsame : ∀ x, s.fieldFound? (T k).1 (T k).2.1 (T k).2.2.1 = some x → s.fieldFound? ref (T k).2.1 (T k).2.2.1 = some x) (hfin : (T k).2.2.2 = true) (hin2 : meth.name = "<init>") (hdecl : (T k).1 = own) {ty : FieldType} {v : Value} (hd : parseFieldDescriptor (T k).2.2.1 = some ty) (hn : narrow ty v = v) (hfit : fits ty v = true) (hE : E G k v)
    (hdg : decode cc pc = .ok (.putfield index, 3)) (kk : ∀ (H1 : Heap) (locs1 : List Loc), gH D kA Sg G H1 → (∀ q, q ≠ a → H1[q]? = H[q]?) → el H1 a (D.2 ci k) = some v → (∀ j, j < N → j ≠ k → el H1 a (D.2 ci j) = el H a (D.2 ci j)) → va_S A H0 H1 locs1 → W p l e R s m args below meth c H1 locs1 cells slots Q (F0 m (pc + 3) ls rest)) : W p l e R s m args below meth c H locs cells slots Q (F0 m pc ls (v :: .ref a :: rest)) := by
  have hap := va_apart (own := own) hts hin ty0 hty hnm hK hc
  have h := hT a t ha
  rw [hs] at h
  obtain ⟨V, ⟨cell, q1, q2, q3, q4⟩, hE0⟩ := h
  obtain ⟨hS, hfc, kC, hkC, hkind⟩ := hK.1 ci _ hc
  obtain ⟨cf, kf, fi, f, hi, hsl⟩ := hS k hk
  have hlay := hts _ (hin _ (u_in_lay hk))
  unfold u_lay at hlay
  rw [if_pos hfin] at hlay
  have hst := (u_facts hfc hkC (u_lays hts hin hk) hi).1
  have hcf : m.cls = cf := by
    obtain ⟨_, _, c', _, _, _, -, -, hf', -, -, -, hown2, -⟩ := Cond.laysFinal_spec hlay
    have e1 : c' = cf := by have := hi.symm.trans hf'; simp at this; exact this.1.symm
    rw [hdecl] at hown2
    rw [← e1]; exact Option.some.inj (hown.symm.trans hown2)
  have h6 := u_fits hfc hkC hkind (Or.inr hlay) hi hd hn hfit
  refine W.putFinK hexec hb hown hlink (hsame _ hi) hst hcf hin2 (by rw [q2]; exact h6) q1 q3 (by rw [hsl]; exact k2_hasslot (q4 k hk)) rfl rfl hdg fun H' e1 e2 e3 => ?_
  rw [hsl] at e1 ⊢
  have hV : ∀ j, j < N → (cell.setSlot (D.2 ci k) v).slots[D.2 ci j]? = some (updV V k v j) := t_set q4 hap hk v
  refine kk H' _ (hT.put ha ?_ e3) e3 ?_ ?_ (hS0.put e2 e3 (hG a t ha))
  · rw [hs]
    refine ⟨updV V k v, ⟨_, e1, q2, q3, hV⟩, fun j hj => ?_⟩
    show E G j (if j = k then v else V j)
    by_cases hjk : j = k
    · rw [if_pos hjk, hjk]; exact hE
    · rw [if_neg hjk]; exact hE0 j hj
  · unfold el
    rw [e1]
    have := hV k hk
    rw [show updV V k v k = v from if_pos rfl] at this
    exact this
  · intro j hj hjk
    unfold el
    rw [e1, q1]
    have := hV j hj
    rw [show updV V k v j = V j from if_neg hjk] at this
    exact this.trans (q4 j hj).symm
/-- a store into a field with which the shapes change -/
theorem tw_put2 {Sg1 : Nat → gS} {E1 : gE} (hexec : p.tables.exec = Jvm.exec) (hb : c.code = cc) {own ref C : String} {T : u_T} {N ci index : Nat} {Ts : List Cond} (hts : ∀ w ∈ Ts, w.before args s = true) (hin : ∀ w ∈ u_ws C T N, w ∈ Ts) (ty0 : Nat → FieldType) (hty : ∀ k, k < N → parseFieldDescriptor (T k).2.2.1 = some (ty0 k)) (hnm : ∀ a, a < N → ∀ b, b < N → a ≠ b → (T a).2.1 ≠ (T b).2.1) (hown : s.vm.findClass own = some m.cls) (hK : va_K D cl tys s) (hT : gH D kA Sg G H) (hG : ∀ q t, G q = some t → A q) (hS0 : va_S A H0 H locs) (ha : G a = some t) (hs : Sg t = .inl (ci, N, E)) (hs1 : Sg1 t = .inl (ci, N, E1)) (hc : cl[ci]? = some (C, T, N)) (k : Nat) (hk : k < N) (hlink : (Cond.fieldLink own index ref (T k).2.1 (T k).2.2.1).before args s = true) (hsame : ∀ x, s.fieldFound? (T k).1 (T k).2.1 (T k).2.2.1 = some x → s.fieldFound? ref (T k).2.1 (T k).2.2.1 = some x) (hfin : (T k).2.2.2 = false) {ty : FieldType} {v : Value} (hd : parseFieldDescriptor (T k).2.2.1 = some ty) (hn : narrow ty v = v) (hfit : fits ty v = true) (hE : E1 G k v) (hEj : ∀ j v, j < N → j ≠ k → E G j v → E1 G j v) (hu : ∀ b, G b = some t → b = a) (ho : ∀ b u, u ≠ t → G b = some u → gC D kA (Sg1 u) G b H)
    (hdg : decode cc pc = .ok (.putfield index, 3)) (kk : ∀ (H1 : Heap) (locs1 : List Loc), gH D kA Sg1 G H1 → (∀ q, q ≠ a → H1[q]? = H[q]?) → el H1 a (D.2 ci k) = some v → (∀ j, j < N → j ≠ k → el H1 a (D.2 ci j) = el H a (D.2 ci j)) → va_S A H0 H1 locs1 → W p l e R s m args below meth c H1 locs1 cells slots Q (F0 m (pc + 3) ls rest)) : W p l e R s m args below meth c H locs cells slots Q (F0 m pc ls (v :: .ref a :: rest)) := by
  have hap := va_apart (own := own) hts hin ty0 hty hnm hK hc
  have h := hT a t ha
  rw [hs] at h
  obtain ⟨V, ⟨cell, q1, q2, q3, q4⟩, hE0⟩ := h
  obtain ⟨hS, hfc, kC, hkC, hkind⟩ := hK.1 ci _ hc
  obtain ⟨cf, kf, fi, f, hi, hsl⟩ := hS k hk
  have hlay := hts _ (hin _ (u_in_lay hk))
  unfold u_lay at hlay
  rw [if_neg (by rw [hfin]; decide)] at hlay
  have hst := (u_facts hfc hkC (u_lays hts hin hk) hi).1
  have h6 := u_store hfc hkC hkind hlay hi hd hn hfit
  refine W.putK hexec hb (f := f) ⟨hown, hlink, ⟨_, _, _, hsame _ hi⟩, hst⟩ (by rw [q2]; exact h6) q1 q3 (by rw [hsl]; exact k2_hasslot (q4 k hk)) rfl rfl hdg fun H' e1 e2 e3 => ?_
  rw [hsl] at e1 ⊢
  have hV : ∀ j, j < N → (cell.setSlot (D.2 ci k) v).slots[D.2 ci j]? = some (updV V k v j) := t_set q4 hap hk v
  refine kk H' _ ?_ e3 ?_ ?_ (hS0.put e2 e3 (hG a t ha))
  · intro b u hb'
    by_cases e : b = a
    · subst e
      have : u = t := Option.some.inj (hb'.symm.trans ha)
      subst this
      rw [hs1]
      refine ⟨updV V k v, ⟨_, e1, q2, q3, hV⟩, fun j hj => ?_⟩
      show E1 G j (if j = k then v else V j)
      by_cases hjk : j = k
      · rw [if_pos hjk, hjk]; exact hE
      · rw [if_neg hjk]; exact hEj j _ hj hjk (hE0 j hj)
    · exact (ho b u (fun h9 => e (hu b (by rw [← h9]; exact hb'))) hb').kept (e3 b e)
  · unfold el
    rw [e1]
    have := hV k hk
    rw [show updV V k v k = v from if_pos rfl] at this
    exact this
  · intro j hj hjk
    unfold el
    rw [e1, q1]
    have := hV j hj
    rw [show updV V k v j = V j from if_neg hjk] at this
    exact this.trans (q4 j hj).symm
/-- a reference into an array of them -/
theorem tw_aast (hexec : p.tables.exec = Jvm.exec) (hb : c.code = cc) {j n ci N b u : Nat} {C : String} {T : u_T} {E' : gE} (hK : va_K D cl tys s) (hT : gH D kA Sg G H) (hG : ∀ q t, G q = some t → A q) (hS0 : va_S A H0 H locs) (ha : G a = some t) (hs : Sg t = .inr (j, n, E)) (ht : tys[j]? = some (kA j, .object C)) (hb' : G b = some u) (hs' : Sg u = .inl (ci, N, E')) (hc : cl[ci]? = some (C, T, N)) {i : Int32} (hin : vp_in i n) (hv : E G i.toNatClampNeg (.ref b)) (hdg : decode cc pc = .ok (.aastore, 1))
    (kk : ∀ (H1 : Heap) (locs1 : List Loc), gH D kA Sg G H1 → (∀ q, q ≠ a → H1[q]? = H[q]?) → el H1 a i.toNatClampNeg = some (.ref b) → (∀ k, k ≠ i.toNatClampNeg → el H1 a k = el H a k) → va_S A H0 H1 locs1 → W p l e R s m args below meth c H1 locs1 cells slots Q (F0 m (pc + 1) ls rest)) : W p l e R s m args below meth c H locs cells slots Q (F0 m pc ls (.ref b :: .int i :: .ref a :: rest)) := by
  have h := hT a t ha
  rw [hs] at h
  obtain ⟨V, q1, hE⟩ := h
  have hlt : i.toNatClampNeg < n := Nat.not_le.mp fun q => hin (Or.inr q)
  obtain ⟨k8, comp8, g1, g2, g3, g4⟩ := (hK.2 j _ ht).2
  have h' := hT b u hb'
  rw [hs'] at h'
  obtain ⟨V', ⟨cv, r1, r2, r3, -⟩, -⟩ := h'
  obtain ⟨-, hfc, kC, hkC, hkind⟩ := hK.1 ci _ hc
  have hcomp : comp8 = D.1 ci := Option.some.inj (g3.symm.trans hfc)
  subst hcomp
  refine W.aast hexec hb q1 (fun q h => by cases h) (fun h => by cases h) g1 g2 rfl hkC ⟨fun q => hin (Or.inl q), by rw [arrV_size]; exact hlt⟩ r1 (fun q h => by rw [r3] at h; cases h) (by rw [r2]; exact hkC) (by rw [r2]; exact va_assign (hK.1 ci _ hc).2) rfl rfl hdg fun H1 e1 e2 e3 => ?_
  obtain ⟨k1, k2, k3⟩ := tw_kept hT ha hs q1 hE hlt hv e1 e3
  exact kk H1 _ k1 e3 k2 k3 (hS0.put e2 e3 (hG a t ha))
end TWY
theorem mon_3 {nC nS : Int} : mS (SHc nC nS 3) := (mE_cons (mK_R (by decide)) (mE_cons (mK_R (by decide)) (mE_cons (mK_R (by decide)) (mE_cons (mK_R (by decide)) (mE_cons (mK_R (by decide)) (mE_cons (mK_R (by decide)) (mE_cons (mK_R (by decide)) (mE_cons (mK_R (by decide)) (mE_cons (mK_R (by decide)) (mE_cons (mK_R (by decide)) (mE_cons mK_I (mE_cons mK_I (mE_cons mK_J (mE_cons mK_J (mE_cons mK_I (mE_cons mK_I (mE_cons mK_I (mE_cons mK_I mE_nil))))))))))))))))))
theorem mon_4 {nC nS : Int} : mS (SHc nC nS 4) := (mE_cons mK_I (mE_cons mK_I (mE_cons mK_I (mE_cons mK_I (mE_cons mK_I (mE_cons mK_I (mE_cons mK_I (mE_cons mK_I mE_nil))))))))
theorem mon_5 {nC nS : Int} : mS (SHc nC nS 5) := (mE_cons (mK_R (by decide)) (mE_cons (mK_R (by decide)) (mE_cons (mK_R (by decide)) (mE_cons (mK_R (by decide)) (mE_cons (mK_R (by decide)) (mE_cons (mK_R (by decide)) (mE_cons (mK_R (by decide)) (mE_cons (mK_R (by decide)) (mE_cons (mK_R (by decide)) (mE_cons (mK_R (by decide)) (mE_cons (mK_R (by decide)) (mE_cons mK_I (mE_cons mK_I (mE_cons mK_I (mE_cons mK_I mE_nil)))))))))))))))
theorem mon_6 {nC nS : Int} : mS (SHc nC nS 6) := (mE_cons (mK_R (by decide)) (mE_cons (mK_R (by decide)) (mE_cons (mK_R (by decide)) (mE_cons mK_I (mE_cons mK_I mE_nil)))))
theorem mon_7 {nC nS : Int} : mS (SHc nC nS 7) := (mE_cons (mK_R (by decide)) (mE_cons (mK_R (by decide)) (mE_cons (mK_R (by decide)) (mE_cons (mK_R (by decide)) (mE_cons (mK_R (by decide)) (mE_cons (mK_R (by decide)) (mE_cons (mK_R (by decide)) (mE_cons (mK_R (by decide)) (mE_cons (mK_R (by decide)) (mE_cons (mK_R (by decide)) (mE_cons (mK_R (by decide)) (mE_cons mK_I (mE_cons mK_I (mE_cons mK_I mE_nil))))))))))))))
theorem mon_8 {nC nS : Int} : mS (SHc nC nS 8) := (mE_cons (mK_R (by decide)) (mE_cons (mK_R (by decide)) (mE_cons (mK_R (by decide)) (mE_cons (mK_R (by decide)) (mE_cons (mK_R (by decide)) (mE_cons (mK_R (by decide)) (mE_cons (mK_R (by decide)) (mE_cons (mK_R (by decide)) (mE_cons (mK_R (by decide)) (mE_cons (mK_R (by decide)) (mE_cons (mK_R (by decide)) (mE_cons (mK_R (by decide)) (mE_cons mK_I (mE_cons mK_I (mE_cons mK_I (mE_cons mK_I (mE_cons mK_I mE_nil)))))))))))))))))
theorem mon_9 {nC nS : Int} : mS (SHc nC nS 9) := (mE_cons (mK_R (by decide)) (mE_cons (mK_R (by decide)) (mE_cons mK_I (mE_cons mK_I mE_nil))))
theorem mon_10 {nC nS : Int} : mS (SHc nC nS 10) := (mE_cons mK_I (mE_cons mK_I (mE_cons mK_I (mE_cons mK_I (mE_cons mK_I (mE_cons mK_I (mE_cons mK_I (mE_cons mK_I (mE_cons mK_I (mE_cons mK_I (mE_cons mK_I (mE_cons mK_I mE_nil))))))))))))
theorem mon_11 {nC nS : Int} : mS (SHc nC nS 11) := (mE_cons (mK_R (by decide)) (mE_cons (mK_R (by decide)) (mE_cons (mK_R (by decide)) (mE_cons (mK_R (by decide)) (mE_cons (mK_R (by decide)) (mE_cons (mK_R (by decide)) (mE_cons mK_I mE_nil)))))))
theorem mon_12 {nC nS : Int} : mS (SHc nC nS 12) := (mE_cons (mK_R (by decide)) (mE_cons (mK_R (by decide)) (mE_cons mK_I mE_nil)))
theorem mon_13 {nC nS : Int} : mS (SHc nC nS 13) := (mE_cons (mK_R (by decide)) (mE_cons (mK_R (by decide)) (mE_cons mK_I (mE_cons mK_I (mE_cons mK_I (mE_cons mK_I (mE_cons mK_I (mE_cons mK_I (mE_cons mK_I (mE_cons mK_I (mE_cons mK_I (mE_cons mK_I mE_nil))))))))))))
theorem mon_14 {nC nS : Int} : mS (SHc nC nS 14) := (mE_cons (mK_R (by decide)) (mE_cons (mK_R (by decide)) (mE_cons (mK_R (by decide)) (mE_cons (mK_R (by decide)) (mE_cons (mK_R (by decide)) (mE_cons (mK_R (by decide)) (mE_cons (mK_N (by decide)) (mE_cons mK_I (mE_cons mK_I mE_nil)))))))))
theorem mon_90 {nC nS : Int} : mS (SHc nC nS 90) := (mE_cons (mK_R (by decide)) (mE_cons (mK_R (by decide)) (mE_cons (mK_R (by decide)) (mE_cons mK_I (mE_cons mK_I mE_nil)))))
theorem mon_91 {nC nS : Int} : mS (SHc nC nS 91) := (mE_cons (mK_R (by decide)) (mE_cons (mK_R (by decide)) (mE_cons (mK_R (by decide)) (mE_cons (mK_R (by decide)) (mE_cons (mK_R (by decide)) (mE_cons (mK_R (by decide)) (mE_cons mK_I mE_nil)))))))
theorem mon_92 {nC nS : Int} : mS (SHc nC nS 92) := (mE_cons (mK_R (by decide)) (mE_cons (mK_R (by decide)) (mE_cons mK_I mE_nil)))
theorem mon_93 {nC nS : Int} : mS (SHc nC nS 93) := (mE_cons (mK_R (by decide)) (mE_cons (mK_R (by decide)) (mE_cons (mK_R (by decide)) (mE_cons (mK_R (by decide)) (mE_cons (mK_R (by decide)) (mE_cons (mK_R (by decide)) (mE_cons (mK_R (by decide)) (mE_cons (mK_R (by decide)) (mE_cons (mK_R (by decide)) (mE_cons (mK_R (by decide)) (mE_cons (mK_R (by decide)) (mE_cons mK_I (mE_cons mK_I (mE_cons mK_I (mE_cons mK_I mE_nil)))))))))))))))
theorem mon_94 {nC nS : Int} : mS (SHc nC nS 94) := (mE_cons (mK_R (by decide)) (mE_cons (mK_R (by decide)) (mE_cons mK_I (mE_cons mK_I (mE_cons mK_I (mE_cons mK_I (mE_cons mK_I (mE_cons mK_I (mE_cons mK_I (mE_cons mK_I (mE_cons mK_I (mE_cons mK_I mE_nil))))))))))))
theorem mon_16 {nC nS : Int} : mS (SHc nC nS 16) := (mE_ga mK_I)
theorem mon_17 {nC nS : Int} : mS (SHc nC nS 17) := (mE_gnb (by decide))
theorem mon_18 {nC nS : Int} : mS (SHc nC nS 18) := (mE_ga (mK_R (by decide)))
theorem mon_19 {nC nS : Int} : mS (SHc nC nS 19) := (mE_ga mK_I)
theorem mon_20 {nC nS : Int} : mS (SHc nC nS 20) := (mE_ga mK_I)
theorem mon_21 {nC nS : Int} : mS (SHc nC nS 21) := (mE_ga mK_I)
theorem mon_22 {nC nS : Int} : mS (SHc nC nS 22) := (mE_ga mK_I)
theorem mon_23 {nC nS : Int} : mS (SHc nC nS 23) := (mE_ga mK_I)
theorem mon_24 {nC nS : Int} : mS (SHc nC nS 24) := (mE_ga mK_I)
theorem mon_25 {nC nS : Int} : mS (SHc nC nS 25) := (mE_ga mK_I)
theorem mon_26 {nC nS : Int} : mS (SHc nC nS 26) := (mE_ga mK_I)
theorem mon_27 {nC nS : Int} : mS (SHc nC nS 27) := (mE_ga mK_I)
theorem mon_28 {nC nS : Int} : mS (SHc nC nS 28) := (mE_ga mK_I)
theorem mon_29 {nC nS : Int} : mS (SHc nC nS 29) := (mE_ga mK_I)
theorem mon_30 {nC nS : Int} : mS (SHc nC nS 30) := (mE_ga mK_I)
theorem mon_31 {nC nS : Int} : mS (SHc nC nS 31) := (mE_ga mK_I)
theorem mon_32 {nC nS : Int} : mS (SHc nC nS 32) := (mE_ga mK_I)
theorem mon_33 {nC nS : Int} : mS (SHc nC nS 33) := (mE_ga mK_I)
theorem mon_34 {nC nS : Int} : mS (SHc nC nS 34) := (mE_ga mK_I)
theorem mon_35 {nC nS : Int} : mS (SHc nC nS 35) := (mE_ga mK_I)
theorem mon_36 {nC nS : Int} : mS (SHc nC nS 36) := (mE_ga mK_I)
theorem mon_37 {nC nS : Int} : mS (SHc nC nS 37) := (mE_ga mK_I)
theorem mon_38 {nC nS : Int} : mS (SHc nC nS 38) := (mE_ga mK_I)
theorem mon_39 {nC nS : Int} : mS (SHc nC nS 39) := (mE_ga mK_I)
theorem mon_40 {nC nS : Int} : mS (SHc nC nS 40) := (mE_ga mK_I)
theorem mon_41 {nC nS : Int} : mS (SHc nC nS 41) := (mE_ga mK_I)
theorem mon_42 {nC nS : Int} : mS (SHc nC nS 42) := (mE_ga mK_I)
theorem mon_43 {nC nS : Int} : mS (SHc nC nS 43) := (mE_ga mK_I)
theorem mon_44 {nC nS : Int} : mS (SHc nC nS 44) := (mE_ga mK_I)
theorem mon_45 {nC nS : Int} : mS (SHc nC nS 45) := (mE_ga mK_I)
theorem mon_46 {nC nS : Int} : mS (SHc nC nS 46) := (mE_ga mK_I)
theorem mon_47 {nC nS : Int} : mS (SHc nC nS 47) := (mE_ga mK_I)
theorem mon_48 {nC nS : Int} : mS (SHc nC nS 48) := (mE_ga mK_I)
theorem mon_49 {nC nS : Int} : mS (SHc nC nS 49) := (mE_ga mK_I)
theorem mon_50 {nC nS : Int} : mS (SHc nC nS 50) := (mE_ga mK_J)
theorem mon_51 {nC nS : Int} : mS (SHc nC nS 51) := (mE_gnb (by decide))
theorem mon_52 {nC nS : Int} : mS (SHc nC nS 52) := (mE_ga mK_I)
theorem mon_53 {nC nS : Int} : mS (SHc nC nS 53) := (mE_ga mK_I)
theorem mon_54 {nC nS : Int} : mS (SHc nC nS 54) := (mE_ga mK_I)
theorem mon_55 {nC nS : Int} : mS (SHc nC nS 55) := (mE_ga mK_I)
theorem mon_56 {nC nS : Int} : mS (SHc nC nS 56) := (mE_ga mK_J)
theorem mon_57 {nC nS : Int} : mS (SHc nC nS 57) := (mE_ga mK_I)
theorem mon_58 {nC nS : Int} : mS (SHc nC nS 58) := (mE_ga mK_I)
theorem mon_59 {nC nS : Int} : mS (SHc nC nS 59) := (mE_ga mK_I)
theorem mon_60 {nC nS : Int} : mS (SHc nC nS 60) := (mE_ga mK_I)
theorem mon_61 {nC nS : Int} : mS (SHc nC nS 61) := (mE_ga mK_I)
theorem mon_62 {nC nS : Int} : mS (SHc nC nS 62) := (mE_ga mK_I)
theorem mon_63 {nC nS : Int} : mS (SHc nC nS 63) := (mE_ga mK_I)
theorem mon_64 {nC nS : Int} : mS (SHc nC nS 64) := (mE_ga mK_I)
theorem mon_65 {nC nS : Int} : mS (SHc nC nS 65) := (mE_ga mK_I)
theorem mon_66 {nC nS : Int} : mS (SHc nC nS 66) := (mE_ga mK_I)
theorem mon_67 {nC nS : Int} : mS (SHc nC nS 67) := (mE_ga mK_I)
theorem mon_68 {nC nS : Int} : mS (SHc nC nS 68) := (mE_ga mK_I)
theorem mon_69 {nC nS : Int} : mS (SHc nC nS 69) := (mE_ga mK_I)
theorem mon_70 {nC nS : Int} : mS (SHc nC nS 70) := (mE_ga (mK_R (by decide)))
theorem mon_71 {nC nS : Int} : mS (SHc nC nS 71) := (mE_ga mK_I)
theorem mon_72 {nC nS : Int} : mS (SHc nC nS 72) := (mE_ga mK_I)
theorem mon_73 {nC nS : Int} : mS (SHc nC nS 73) := (mE_ga mK_I)
theorem mon_74 {nC nS : Int} : mS (SHc nC nS 74) := (mE_ga mK_I)
theorem mon_75 {nC nS : Int} : mS (SHc nC nS 75) := (mE_ga mK_I)
theorem mon_76 {nC nS : Int} : mS (SHc nC nS 76) := (mE_ga mK_I)
theorem mon_77 {nC nS : Int} : mS (SHc nC nS 77) := (mE_ga mK_I)
theorem mon_78 {nC nS : Int} : mS (SHc nC nS 78) := (mE_ga mK_I)
theorem mon_79 {nC nS : Int} : mS (SHc nC nS 79) := (mE_ga mK_I)
theorem mon_80 {nC nS : Int} : mS (SHc nC nS 80) := (mE_ga mK_I)
theorem mon_81 {nC nS : Int} : mS (SHc nC nS 81) := (mE_ga mK_I)
theorem mon_82 {nC nS : Int} : mS (SHc nC nS 82) := (mE_ga mK_I)
theorem mon_83 {nC nS : Int} : mS (SHc nC nS 83) := (mE_ga mK_I)
theorem mon_84 {nC nS : Int} : mS (SHc nC nS 84) := (mE_ga mK_I)
theorem mon_85 {nC nS : Int} : mS (SHc nC nS 85) := (mE_ga mK_I)
theorem mon_86 {nC nS : Int} : mS (SHc nC nS 86) := (mE_ga mK_I)
theorem mon_87 {nC nS : Int} : mS (SHc nC nS 87) := (mE_ga mK_I)
theorem mon_88 {nC nS : Int} : mS (SHc nC nS 88) := (mE_ga mK_I)
theorem mon_89 {nC nS : Int} : mS (SHc nC nS 89) := (mE_ga mK_I)
theorem mon_103 {nC nS : Int} : mS (SHc nC nS 103) := (mE_cons (mK_N (by decide)) (mE_cons (mK_N (by decide)) (mE_cons (mK_N (by decide)) (mE_cons (mK_N (by decide)) (mE_cons (mK_N (by decide)) (mE_cons (mK_N (by decide)) (mE_cons (mK_N (by decide)) (mE_cons (mK_N (by decide)) (mE_cons (mK_N (by decide)) (mE_cons (mK_N (by decide)) (mE_cons mK_I (mE_cons mK_I (mE_cons mK_J (mE_cons mK_J (mE_cons mK_I (mE_cons mK_I (mE_cons mK_I (mE_cons mK_I mE_nil))))))))))))))))))
theorem mon_104 {nC nS : Int} : mS (SHc nC nS 104) := (mE_cons mK_I (mE_cons mK_I (mE_cons mK_I (mE_cons mK_I (mE_cons mK_I (mE_cons mK_I (mE_cons mK_I (mE_cons mK_I mE_nil))))))))
theorem mon_105 {nC nS : Int} : mS (SHc nC nS 105) := (mE_cons (mK_N (by decide)) (mE_cons (mK_N (by decide)) (mE_cons (mK_N (by decide)) (mE_cons (mK_N (by decide)) (mE_cons (mK_N (by decide)) (mE_cons (mK_N (by decide)) (mE_cons (mK_N (by decide)) (mE_cons (mK_N (by decide)) (mE_cons (mK_N (by decide)) (mE_cons (mK_N (by decide)) (mE_cons (mK_N (by decide)) (mE_cons mK_I (mE_cons mK_I (mE_cons mK_I (mE_cons mK_I mE_nil)))))))))))))))
theorem mon_106 {nC nS : Int} : mS (SHc nC nS 106) := (mE_cons (mK_N (by decide)) (mE_cons (mK_N (by decide)) (mE_cons mK_V (mE_cons mK_I (mE_cons mK_I mE_nil)))))
theorem mon_107 {nC nS : Int} : mS (SHc nC nS 107) := (mE_cons (mK_N (by decide)) (mE_cons (mK_N (by decide)) (mE_cons (mK_N (by decide)) (mE_cons (mK_N (by decide)) (mE_cons (mK_N (by decide)) (mE_cons (mK_N (by decide)) (mE_cons (mK_N (by decide)) (mE_cons (mK_N (by decide)) (mE_cons (mK_N (by decide)) (mE_cons (mK_N (by decide)) (mE_cons (mK_N (by decide)) (mE_cons mK_I (mE_cons mK_I (mE_cons mK_I mE_nil))))))))))))))
theorem mon_108 {nC nS : Int} : mS (SHc nC nS 108) := (mE_cons (mK_N (by decide)) (mE_cons (mK_N (by decide)) (mE_cons (mK_N (by decide)) (mE_cons (mK_N (by decide)) (mE_cons (mK_N (by decide)) (mE_cons (mK_N (by decide)) (mE_cons (mK_N (by decide)) (mE_cons (mK_N (by decide)) (mE_cons (mK_N (by decide)) (mE_cons (mK_N (by decide)) (mE_cons (mK_N (by decide)) (mE_cons (mK_N (by decide)) (mE_cons mK_I (mE_cons mK_I (mE_cons mK_I (mE_cons mK_I (mE_cons mK_I mE_nil)))))))))))))))))
theorem mon_109 {nC nS : Int} : mS (SHc nC nS 109) := (mE_cons (mK_N (by decide)) (mE_cons (mK_N (by decide)) (mE_cons mK_I (mE_cons mK_I mE_nil))))
theorem mon_110 {nC nS : Int} : mS (SHc nC nS 110) := (mE_cons mK_I (mE_cons mK_I (mE_cons mK_I (mE_cons mK_I (mE_cons mK_I (mE_cons mK_I (mE_cons mK_I (mE_cons mK_I (mE_cons mK_I (mE_cons mK_I (mE_cons mK_I (mE_cons mK_I mE_nil))))))))))))
theorem mon_111 {nC nS : Int} : mS (SHc nC nS 111) := (mE_cons (mK_N (by decide)) (mE_cons (mK_N (by decide)) (mE_cons (mK_N (by decide)) (mE_cons (mK_N (by decide)) (mE_cons (mK_N (by decide)) (mE_cons (mK_N (by decide)) (mE_cons mK_I mE_nil)))))))
theorem mon_112 {nC nS : Int} : mS (SHc nC nS 112) := (mE_cons (mK_N (by decide)) (mE_cons (mK_N (by decide)) (mE_cons mK_I mE_nil)))
theorem mon_113 {nC nS : Int} : mS (SHc nC nS 113) := (mE_cons (mK_N (by decide)) (mE_cons (mK_N (by decide)) (mE_cons mK_I (mE_cons mK_I (mE_cons mK_I (mE_cons mK_I (mE_cons mK_I (mE_cons mK_I (mE_cons mK_I (mE_cons mK_I (mE_cons mK_I (mE_cons mK_I mE_nil))))))))))))
theorem mon_114 {nC nS : Int} : mS (SHc nC nS 114) := (mE_cons (mK_N (by decide)) (mE_cons (mK_N (by decide)) (mE_cons (mK_N (by decide)) (mE_cons (mK_N (by decide)) (mE_cons (mK_N (by decide)) (mE_cons (mK_N (by decide)) (mE_cons (mK_N (by decide)) (mE_cons mK_I (mE_cons mK_I mE_nil)))))))))
theorem mon_120 {nC nS : Int} : mS (SHc nC nS 120) := (mE_cons (mK_N (by decide)) (mE_cons (mK_N (by decide)) (mE_cons mK_V (mE_cons mK_I (mE_cons mK_I mE_nil)))))
theorem mon_121 {nC nS : Int} : mS (SHc nC nS 121) := (mE_cons (mK_N (by decide)) (mE_cons (mK_N (by decide)) (mE_cons (mK_N (by decide)) (mE_cons (mK_N (by decide)) (mE_cons (mK_N (by decide)) (mE_cons (mK_N (by decide)) (mE_cons mK_I mE_nil)))))))
theorem mon_122 {nC nS : Int} : mS (SHc nC nS 122) := (mE_cons (mK_N (by decide)) (mE_cons (mK_N (by decide)) (mE_cons mK_I mE_nil)))
theorem mon_123 {nC nS : Int} : mS (SHc nC nS 123) := (mE_cons (mK_N (by decide)) (mE_cons (mK_N (by decide)) (mE_cons (mK_N (by decide)) (mE_cons (mK_N (by decide)) (mE_cons (mK_N (by decide)) (mE_cons (mK_N (by decide)) (mE_cons (mK_N (by decide)) (mE_cons (mK_N (by decide)) (mE_cons (mK_N (by decide)) (mE_cons (mK_N (by decide)) (mE_cons (mK_N (by decide)) (mE_cons mK_I (mE_cons mK_I (mE_cons mK_I (mE_cons mK_I mE_nil)))))))))))))))
theorem mon_124 {nC nS : Int} : mS (SHc nC nS 124) := (mE_cons (mK_N (by decide)) (mE_cons (mK_N (by decide)) (mE_cons mK_I (mE_cons mK_I (mE_cons mK_I (mE_cons mK_I (mE_cons mK_I (mE_cons mK_I (mE_cons mK_I (mE_cons mK_I (mE_cons mK_I (mE_cons mK_I mE_nil))))))))))))
theorem mon_99 {nC nS : Int} : mS (SHc nC nS 99) := (mE_ga (mK_N (by decide)))
theorem mon_125 {nC nS : Int} : mS (SHc nC nS 125) := (mE_ga (mK_N (by decide)))
theorem mon_98 {nC nS : Int} : mS (SHc nC nS 98) := (mE_ga mK_J)
set_option maxRecDepth 100000 in
theorem mon_l : ∀ t, mS (shl_c.getD t (.inr (0, 0, ga gJ))) := (mS_cons (mE_ga mK_J) (mS_cons (mE_ga mK_J) (mS_cons (mE_ga mK_J) (mS_cons (mE_ga mK_J) (mS_cons (mon_4 (nC := 0) (nS := 0)) (mS_cons (mon_5 (nC := 0) (nS := 0)) (mS_cons (mon_6 (nC := 0) (nS := 0)) (mS_cons (mon_7 (nC := 0) (nS := 0)) (mS_cons (mon_8 (nC := 0) (nS := 0)) (mS_cons (mon_9 (nC := 0) (nS := 0)) (mS_cons (mon_10 (nC := 0) (nS := 0)) (mS_cons (mon_11 (nC := 0) (nS := 0)) (mS_cons (mon_12 (nC := 0) (nS := 0)) (mS_cons (mon_13 (nC := 0) (nS := 0)) (mS_cons (mE_ga mK_J) (mS_cons (mE_ga mK_J) (mS_cons (mon_16 (nC := 0) (nS := 0)) (mS_cons (mE_ga mK_J) (mS_cons (mon_18 (nC := 0) (nS := 0)) (mS_cons (mon_19 (nC := 0) (nS := 0)) (mS_cons (mon_20 (nC := 0) (nS := 0)) (mS_cons (mon_21 (nC := 0) (nS := 0)) (mS_cons (mon_22 (nC := 0) (nS := 0)) (mS_cons (mon_23 (nC := 0) (nS := 0)) (mS_cons (mon_24 (nC := 0) (nS := 0)) (mS_cons (mon_25 (nC := 0) (nS := 0)) (mS_cons (mon_26 (nC := 0) (nS := 0)) (mS_cons (mon_27 (nC := 0) (nS := 0)) (mS_cons (mon_28 (nC := 0) (nS := 0)) (mS_cons (mon_29 (nC := 0) (nS := 0)) (mS_cons (mon_30 (nC := 0) (nS := 0)) (mS_cons (mon_31 (nC := 0) (nS := 0)) (mS_cons (mon_32 (nC := 0) (nS := 0)) (mS_cons (mon_33 (nC := 0) (nS := 0)) (mS_cons (mon_34 (nC := 0) (nS := 0)) (mS_cons (mon_35 (nC := 0) (nS := 0)) (mS_cons (mon_36 (nC := 0) (nS := 0)) (mS_cons (mon_37 (nC := 0) (nS := 0)) (mS_cons (mon_38 (nC := 0) (nS := 0)) (mS_cons (mon_39 (nC := 0) (nS := 0)) (mS_cons (mon_40 (nC := 0) (nS := 0)) (mS_cons (mon_41 (nC := 0) (nS := 0)) (mS_cons (mon_42 (nC := 0) (nS := 0)) (mS_cons (mon_43 (nC := 0) (nS := 0)) (mS_cons (mon_44 (nC := 0) (nS := 0)) (mS_cons (mon_45 (nC := 0) (nS := 0)) (mS_cons (mon_46 (nC := 0) (nS := 0)) (mS_cons (mon_47 (nC := 0) (nS := 0)) (mS_cons (mon_48 (nC := 0) (nS := 0)) (mS_cons (mon_49 (nC := 0) (nS := 0)) (mS_cons (mon_50 (nC := 0) (nS := 0)) (mS_cons (mE_ga mK_J) (mS_cons (mon_52 (nC := 0) (nS := 0)) (mS_cons (mon_53 (nC := 0) (nS := 0)) (mS_cons (mon_54 (nC := 0) (nS := 0)) (mS_cons (mon_55 (nC := 0) (nS := 0)) (mS_cons (mon_56 (nC := 0) (nS := 0)) (mS_cons (mon_57 (nC := 0) (nS := 0)) (mS_cons (mon_58 (nC := 0) (nS := 0)) (mS_cons (mon_59 (nC := 0) (nS := 0)) (mS_cons (mon_60 (nC := 0) (nS := 0)) (mS_cons (mon_61 (nC := 0) (nS := 0)) (mS_cons (mon_62 (nC := 0) (nS := 0)) (mS_cons (mon_63 (nC := 0) (nS := 0)) (mS_cons (mon_64 (nC := 0) (nS := 0)) (mS_cons (mon_65 (nC := 0) (nS := 0)) (mS_cons (mon_66 (nC := 0) (nS := 0)) (mS_cons (mon_67 (nC := 0) (nS := 0)) (mS_cons (mon_68 (nC := 0) (nS := 0)) (mS_cons (mon_69 (nC := 0) (nS := 0)) (mS_cons (mon_70 (nC := 0) (nS := 0)) (mS_cons (mon_71 (nC := 0) (nS := 0)) (mS_cons (mon_72 (nC := 0) (nS := 0)) (mS_cons (mon_73 (nC := 0) (nS := 0)) (mS_cons (mon_74 (nC := 0) (nS := 0)) (mS_cons (mon_75 (nC := 0) (nS := 0)) (mS_cons (mon_76 (nC := 0) (nS := 0)) (mS_cons (mon_77 (nC := 0) (nS := 0)) (mS_cons (mon_78 (nC := 0) (nS := 0)) (mS_cons (mon_79 (nC := 0) (nS := 0)) (mS_cons (mon_80 (nC := 0) (nS := 0)) (mS_cons (mon_81 (nC := 0) (nS := 0)) (mS_cons (mon_82 (nC := 0) (nS := 0)) (mS_cons (mon_83 (nC := 0) (nS := 0)) (mS_cons (mon_84 (nC := 0) (nS := 0)) (mS_cons (mon_85 (nC := 0) (nS := 0)) (mS_cons (mon_86 (nC := 0) (nS := 0)) (mS_cons (mon_87 (nC := 0) (nS := 0)) (mS_cons (mon_88 (nC := 0) (nS := 0)) (mS_cons (mon_89 (nC := 0) (nS := 0)) (mS_cons (mon_90 (nC := 0) (nS := 0)) (mS_cons (mon_91 (nC := 0) (nS := 0)) (mS_cons (mon_92 (nC := 0) (nS := 0)) (mS_cons (mon_93 (nC := 0) (nS := 0)) (mS_cons (mon_94 (nC := 0) (nS := 0)) (mS_cons (mE_ga mK_J) (mS_cons (mE_ga mK_J) (mS_cons (mE_ga mK_J) (mS_cons (mon_98 (nC := 0) (nS := 0)) (mS_cons (mon_99 (nC := 0) (nS := 0)) (mS_cons (mE_ga mK_J) (mS_cons (mE_ga mK_J) (mS_cons (mE_ga mK_J) (mS_cons (mon_103 (nC := 0) (nS := 0)) (mS_cons (mon_104 (nC := 0) (nS := 0)) (mS_cons (mon_105 (nC := 0) (nS := 0)) (mS_cons (mon_106 (nC := 0) (nS := 0)) (mS_cons (mon_107 (nC := 0) (nS := 0)) (mS_cons (mon_108 (nC := 0) (nS := 0)) (mS_cons (mon_109 (nC := 0) (nS := 0)) (mS_cons (mon_110 (nC := 0) (nS := 0)) (mS_cons (mon_111 (nC := 0) (nS := 0)) (mS_cons (mon_112 (nC := 0) (nS := 0)) (mS_cons (mon_113 (nC := 0) (nS := 0)) (mS_cons (mon_114 (nC := 0) (nS := 0)) (mS_cons (mE_ga mK_J) (mS_cons (mE_ga mK_J) (mS_cons (mE_ga mK_J) (mS_cons (mE_ga mK_J) (mS_cons (mE_ga mK_J) (mS_cons (mon_120 (nC := 0) (nS := 0)) (mS_cons (mon_121 (nC := 0) (nS := 0)) (mS_cons (mon_122 (nC := 0) (nS := 0)) (mS_cons (mon_123 (nC := 0) (nS := 0)) (mS_cons (mon_124 (nC := 0) (nS := 0)) (mS_cons (mon_125 (nC := 0) (nS := 0)) (fun _ => mS_nil (mE_ga mK_J))))))))))))))))))))))))))))))))))))))))))))))))))))))))))))))))))))))))))))))))))))))))))))))))))))))))))))))))))))))))))))))))
set_option maxRecDepth 100000 in
theorem mon_c {nC nS : Int} : ∀ t, mS (SHc nC nS t) := fun t => (mS_ite (mon_3 (nC := nC) (nS := nS)) (mS_ite (mon_14 (nC := nC) (nS := nS)) (mS_ite (mon_17 (nC := nC) (nS := nS)) (mS_ite (mon_51 (nC := nC) (nS := nS)) (mon_l t)))))
theorem shc_oS {nC nS n : Int} {u : Nat} (h1 : u ≠ 3) (h2 : u ≠ 51) : SHc nC nS u = SHc nC n u := by unfold SHc; simp only [h1, h2, if_false]
theorem shc_oC {nC nS n : Int} {u : Nat} (h1 : u ≠ 14) (h2 : u ≠ 17) : SHc nC nS u = SHc n nS u := by unfold SHc; simp only [h1, h2, if_false]
