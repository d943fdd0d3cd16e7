theorem gA_m {Pr : Nat → Prop} {Gm : gT} {A : Nat → Prop} {H0 H : Heap} {locs : List Loc} (_ : ∀ a, Pr a → a < H.size) (_ : ∀ a t, Gm a = some t → Pr a) (hGA : ∀ a t, Gm a = some t → A a) (hA : ∀ q, H0.size ≤ q → A q) (hS : va_S A H0 H locs) : ∀ q, gA Gm H.size q → A q := by
  rintro q (⟨t, h⟩ | h)
  · exact hGA q t h
  · exact hA q (Nat.le_trans hS.1 h)
theorem gA_mn {Pr : Nat → Prop} {Gm : gT} {z a : Nat} (hGP : ∀ a t, Gm a = some t → Pr a) (h1 : a < z) (h2 : ¬ Pr a) : ¬ gA Gm z a := by
  rintro (⟨t, h⟩ | h)
  · exact h2 (hGP a t h)
  · omega
theorem CJ.recv {dC : Nat → ClassId} {dI : Nat → Nat → Nat} {kA : Nat → ClassId} {tys : List (ClassId × FieldType)} {s : State} {Pr : Nat → Prop} {g : gz} {x ou : Nat} {H : Heap} (hK : va_K (dC, dI) vwCl tys s) (h : CJ dC dI kA Pr g x ou H) : ∃ cell : Cell, H[x]? = some cell ∧ cell.vm.isStatics = false ∧ s.vm.findClass RX11 = some cell.cls := by
  obtain ⟨G, nC, nS, bo, wa, wc, hT, hx, -⟩ := h
  exact gH_rc hK hT hx shc_14 rfl
theorem RI.recv {dC : Nat → ClassId} {dI : Nat → Nat → Nat} {kA : Nat → ClassId} {tys : List (ClassId × FieldType)} {s : State} {o : Nat} {G : gT} {H : Heap} (hK : va_K (dC, dI) vwCl tys s) (h : RI dC dI kA o G H) : ∃ cell : Cell, H[o]? = some cell ∧ cell.vm.isStatics = false ∧ s.vm.findClass RX12 = some cell.cls := by
  obtain ⟨q, wN, wH, wB, wC, wL, wK, wU, wV, vN, vH, vB, vC, vL, vK, vU, vV, im, PM, PT, lS, lB, lE, lN, hT, hr, -⟩ := h
  exact gH_rc hK hT hr shm_0 rfl
