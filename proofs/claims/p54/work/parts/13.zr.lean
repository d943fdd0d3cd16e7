theorem gH_rc {D : va_G} {kA : Nat → ClassId} {Sg : Nat → gS} {G : gT} {H : Heap} {s : State} {cl : List vw_C} {tys : List (ClassId × FieldType)} {C : String} {T : u_T} {M : Nat} {a t ci N : Nat} {E : gE} (hK : va_K D cl tys s) (hT : gH D kA Sg G H) (ha : G a = some t) (hs : Sg t = .inl (ci, N, E)) (hc : cl[ci]? = some (C, T, M)) : ∃ cell : Cell, H[a]? = some cell ∧ cell.vm.isStatics = false ∧ s.vm.findClass C = some cell.cls := (gH_recv) hK hT ha hs hc
theorem ll_nx {x y : Int32} {k k1 : Int} (h : k ≤ x.toInt) (hne : ¬ x = y) (e : y.toInt = k) (e1 : k1 = k + 1) : k1 ≤ x.toInt := by
  have : x.toInt ≠ k := fun q => hne (Int32.toInt_inj.mp (q.trans e.symm))
  omega
