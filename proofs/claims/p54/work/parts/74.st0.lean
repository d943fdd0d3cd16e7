theorem RB_0 : RB (fun _ => 6500000) 0 0 0 (fun _ => False) (fun _ => True) (fun _ => 0) (fun _ => 0) := ⟨fun _ => ⟨by show (6500000 : Int) ≤ 6500000; omega, by show (6500000 : Int) ≤ 6500000 + 340 * 0; omega⟩, ⟨by omega, by omega⟩, ⟨by omega, by omega⟩, ⟨by omega, by omega⟩, fun w hw => by omega⟩
theorem laws_0 : lawsOK (fun _ _ _ => True) (fun _ _ _ => True) (fun _ _ _ => True) (fun _ => 0) := fun l _ => ⟨fun _ _ _ => trivial, fun _ => 0, fun _ => 0, fun _ _ => 0, fun _ _ _ k hk => absurd hk (Nat.not_lt_zero _), fun k _ hk => absurd hk (Nat.not_lt_zero _), fun k _ hk => absurd hk (Nat.not_lt_zero _), fun k hk => absurd hk (Nat.not_lt_zero _)⟩
/-- the reference, made: its invariant -/
theorem RI_start {dC : Nat → ClassId} {dI : Nat → Nat → Nat} {kA : Nat → ClassId} {h0 : Nat} {v : Nat → Nat} {kk : Nat → ClassId} {H : Heap} {ts : State} {A : Nat → Prop} (hP : va_P (dC, dI) vwCl (msW h0 v kk) H) (hKs : va_K (dC, dI) vwCl (msY kk) ts) (hK : va_K (dC, dI) vwCl (tyl kA) ts) (hD : va_D A (msW h0 v kk)) : ∃ G : gT, RI dC dI kA h0 G H ∧ ∀ a t, G a = some t → A a := by
  obtain ⟨G, hT, h1, h2, h3, h4⟩ := m_start (lS := fun _ _ _ => True) (lB := fun _ _ _ => True) (lE := fun _ _ _ => True) (lN := fun _ => 0) hP hKs hK hD (fun _ => trivial) (fun _ => ⟨⟨by omega, by omega⟩, trivial⟩) (fun _ => ⟨⟨by omega, by omega⟩, trivial⟩) (fun _ => ⟨⟨by omega, by omega⟩, by show (0 : Int) ≤ 0; omega⟩)
  exact ⟨G, ⟨v, fun _ => 6500000, 0, 0, 0, fun _ => False, fun _ => True, fun _ => 0, fun _ => 0, fun _ => 6500000, 0, 0, 0, fun _ => False, fun _ => True, fun _ => 0, fun _ => 0, 0, fun _ _ => True, fun _ _ => True, fun _ _ _ => True, fun _ _ _ => True, fun _ _ _ => True, fun _ => 0, hT, h1, RB_0, RB_0, ⟨by omega, by omega⟩, h2, laws_0⟩, h4⟩
section TWO
variable {p : Program} {l : Launch} {e : Env} {R : Room} {s : State} {m : MethodId} {args : Array Value} {below : List Frame} {meth : Method} {c : Code} {H : Heap} {locs : List Loc} {cells slots : Nat} {Q : State → Prop}
variable {cc : ByteArray} {pc : Nat} {ls : Array Slot} {rest : List Value} {D : va_G} {cl : List vw_C} {A : Nat → Prop} {tys : List (ClassId × FieldType)} {H0 : Heap}
/-- a new object, all older cells as before -/
theorem tw_newO (hexec : p.tables.exec = Jvm.exec) (hb : c.code = cc) {own C : String} {T : u_T} {N ci index : Nat} {Ts : List Cond} (hts : ∀ w ∈ Ts, w.before args s = true) (hin : ∀ w ∈ u_ws C T N, w ∈ Ts) (ty : Nat → FieldType) (hty : ∀ k, k < N → parseFieldDescriptor (T k).2.2.1 = some (ty k)) (hown : s.vm.findClass own = some m.cls) (hcl : (Cond.classLink own index C).before args s = true) (hinst : (Cond.instantiable C N).before args s = true) (hini : (Cond.initialized C).before args s = true)
    (hK : va_K D cl tys s) (hS : va_S A H0 H locs) (hc : cl[ci]? = some (C, T, N)) {fs : List Value} (hfs : ∀ j, j < N → defaultValue (ty j) = vp_V fs j) (hcells : cells + 1 ≤ R.cells) (hslots : slots + N ≤ R.slots) (hdg : decode cc pc = .ok (.new index, 3))
    (kk : ∀ (q : Nat) (H1 : Heap), H.size = q → H1.size = q + 1 → va_P D cl [(q, .inr (ci, fs))] H1 → (∀ a, a < H.size → H1[a]? = H[a]?) → va_S A H0 H1 locs →
      W p l e R s m args below meth c H1 locs (cells + 1) (slots + N) Q (F0 m (pc + 3) ls (.ref q :: rest))) : W p l e R s m args below meth c H locs cells slots Q (F0 m pc ls rest) := by
  have hKn := hK.1 ci _ hc
  refine W.newcK hexec hb hown hcl hinst hini rfl hdg hcells hslots hKn.2.1 rfl fun H1 kC hkC e1 z1 o1 => ?_
  refine kk H.size H1 rfl z1 (fun k x hx => ?_) o1 ⟨Nat.le_trans hS.1 (by omega), fun x h1 h2 => (o1 x (Nat.lt_of_lt_of_le h1 hS.1)).trans (hS.2.1 x h1 h2), hS.2.2⟩
  have hz : k < 1 := (List.getElem?_eq_some_iff.mp hx).1
  rw [show k = 0 by omega] at hx
  cases hx
  exact ⟨_, hc, (u_born ty hts hin hKn hkC e1 hty).to hfs⟩
end TWO
