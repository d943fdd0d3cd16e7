section TWCE
variable {p : Program} {l : Launch} {e : Env} {R : Room} {s : State} {m : MethodId} {args : Array Value} {below : List Frame} {meth : Method} {c : Code} {H : Heap} {locs : List Loc} {cells slots : Nat} {Q : State → Prop}
variable {cc : ByteArray} {pc : Nat} {ls : Array Slot} {rest : List Value} {D : va_G} {cl : List vw_C} {A : Nat → Prop} {a : Nat} {tys : List (ClassId × FieldType)} {H0 : Heap} {kA : Nat → ClassId} {Sg : Nat → gS} {G : gT}
theorem tw_copyE (hexec : p.tables.exec = Jvm.exec) (hb : c.code = cc) (hml : c.maxLocals = ls.size) {own : String} {index : Nat} (hown : s.vm.findClass own = some m.cls) (hlink : (Cond.methodLink own index arraycopyName).before args s = true) (hnat : (Cond.native arraycopyName).before args s = true) (hstat : (Cond.static arraycopyName).before args s = true) (hini : (Cond.initialized "java/lang/System").before args s = true)
    (hK : va_K D cl tys s) (hTy : gH D kA Sg G H) (hG : ∀ q t, G q = some t → A q) (hS : va_S A H0 H locs) {a0 t0 t1 j n0 n1 : Nat} {E0 E1 : gE} {ty : FieldType} (ha0 : G a0 = some t0) (ha1 : G a = some t1) (hs0 : Sg t0 = .inr (j, n0, E0)) (hs1 : Sg t1 = .inr (j, n1, E1)) (ht : tys[j]? = some (kA j, ty)) (hprim : refKind ty = false)
    {sp dp n : Int32} (h1 : ¬ sp < 0) (h2 : ¬ dp < 0) (h3 : ¬ n < 0) (h4 : sp.toNatClampNeg + n.toNatClampNeg ≤ n0) (h5 : dp.toNatClampNeg + n.toNatClampNeg ≤ n1) (hsp : sp.toNatClampNeg = 0) (hdp : dp.toNatClampNeg = 0) (hfit : ∀ k v, E0 G k v → ∃ x : Int32, v = .int x ∧ fits ty (.int x) = true) (hE : ∀ k k1 v, E0 G k v → E1 G k1 v)
    (hframes : 1 ≤ R.frames) (hlocals : (rest.map fun v => v.category).sum + (nativeFrameWords "java/lang/System" "arraycopy" 5 + 11) ≤ R.locals) (hdg : decode cc pc = .ok (.invokestatic index, 3))
    (kk : ∀ (H1 : Heap) (locs1 : List Loc), gH D kA Sg G H1 → (∀ q, q ≠ a → H1[q]? = H[q]?) → (∀ i, i < n.toNatClampNeg → el H1 a i = el H a0 i) → va_S A H0 H1 locs1 → W p l e R s m args below meth c H1 locs1 cells slots Q (F0 m (pc + 3) ls rest)) : W p l e R s m args below meth c H locs cells slots Q (F0 m pc ls (.int n :: .int dp :: .ref a :: .int sp :: .ref a0 :: rest)) := by
  have nn : ∀ z : Int32, ¬ z < 0 → z.toInt = (z.toNatClampNeg : Int) := by
    intro z hz
    have hz0 : (0 : Int) ≤ z.toInt := by
      have := Int32.not_lt.mp hz
      simpa using Int32.le_iff_toInt_le.mp this
    show z.toInt = ((z.toInt.toNat : Nat) : Int)
    omega
  have q0 := hTy a0 t0 ha0
  rw [hs0] at q0
  obtain ⟨f, hc0, hf⟩ := q0
  have hc0 : H[a0]? = some (arrV (kA j) n0 f) := hc0
  have hf : ∀ k, k < n0 → E0 G k (f k) := hf
  have q1 := hTy a t1 ha1
  rw [hs1] at q1
  obtain ⟨g, hc1, hg⟩ := q1
  have hc1 : H[a]? = some (arrV (kA j) n1 g) := hc1
  have hg : ∀ k, k < n1 → E1 G k (g k) := hg
  intro T hT X
  obtain ⟨-, k0, hk0, cm0, hkk0⟩ := (hK.2 j _ ht).1 n0 f
  obtain ⟨-, k1, hk1, cm1, hkk1⟩ := (hK.2 j _ ht).1 n1 g
  obtain ⟨vm', X', step⟩ := X.arraycopy hexec hown hlink hnat hstat hini (src := a0) (dst := a) (cs := arrV (kA j) n0 f) (cd := arrV (kA j) n1 g) (srcPos := sp) (destPos := dp) (n := n) (by rw [hT]; exact hc0) (by rw [hT]; exact hc1)
    (fun _ h => by cases h) (fun _ h => by cases h) (fun h => by cases h) (fun h => by cases h) hk0 hk1 hkk0 hkk1 (by simp [hprim]) h1 h2 h3
    (by rw [nn sp h1, nn n h3]; show ¬ _ > ((arrV (kA j) n0 f).slots.size : Int); rw [arrV_size]; omega)
    (by rw [nn dp h2, nn n h3]; show ¬ _ > ((arrV (kA j) n1 g).slots.size : Int); rw [arrV_size]; omega)
    (fun vm₁ _ i hi => by
      have e : (arrV (kA j) n0 f).slots.getD (sp.toNatClampNeg + i) .null = f (sp.toNatClampNeg + i) := by
        rw [Array.getD_eq_getD_getElem?, arrV_read _ _ (by omega)]
        rfl
      obtain ⟨x9, ex9, hx9⟩ := hfit _ _ (hf (sp.toNatClampNeg + i) (by omega))
      rw [ex9] at e
      refine ⟨?_, ?_⟩
      · rw [e]
        exact hx9
      · rw [e]
        exact trivial)
    (g := F0 m pc ls (.int n :: .int dp :: .ref a :: .int sp :: .ref a0 :: rest)) rfl (by rw [hml]) (rest := rest) rfl (by rw [hb]; exact hdg) hframes (by show 2 * 0 + _ + _ ≤ _; omega)
  have e1 : copied (arrV (kA j) n0 f) (arrV (kA j) n1 g) sp dp n = arrV (kA j) n1 (va_cpy f g sp.toNatClampNeg dp.toNatClampNeg n.toNatClampNeg) := va_copied (fun z : Value => z) (kA j) (kA j) f g h4
  rw [e1] at X' step
  have hl : a < H.size := (Array.getElem?_eq_some_iff.mp hc1).1
  have hheap : ((T.setVm vm').setCell a (arrV (kA j) n1 (va_cpy f g sp.toNatClampNeg dp.toNatClampNeg n.toNatClampNeg))).heap = H.setIfInBounds a (arrV (kA j) n1 (va_cpy f g sp.toNatClampNeg dp.toNatClampNeg n.toNatClampNeg)) := by rw [← hT]; rfl
  have oq : ∀ q : Nat, q ≠ a → (H.setIfInBounds a (arrV (kA j) n1 (va_cpy f g sp.toNatClampNeg dp.toNatClampNeg n.toNatClampNeg)))[q]? = H[q]? := fun q hq => by simp [Array.getElem?_setIfInBounds, Ne.symm hq]
  have haA : A a := hG a t1 ha1
  obtain ⟨t, a1, b1⟩ := kk _ _ (hTy.put ha1 (by
      rw [hs1]
      refine ⟨va_cpy f g sp.toNatClampNeg dp.toNatClampNeg n.toNatClampNeg, (show (H.setIfInBounds a _)[a]? = some _ by simp [Array.getElem?_setIfInBounds, hl]), fun k hk => ?_⟩
      have hk : k < n1 := hk
      unfold va_cpy
      by_cases q : dp.toNatClampNeg ≤ k ∧ k < dp.toNatClampNeg + n.toNatClampNeg
      · rw [if_pos q]; exact hE _ _ _ (hf _ (by omega))
      · rw [if_neg q]; exact hg k hk) oq) oq (fun i hi => by
      have z1 : (H.setIfInBounds a (arrV (kA j) n1 (va_cpy f g sp.toNatClampNeg dp.toNatClampNeg n.toNatClampNeg)))[a]? = some (arrV (kA j) n1 (va_cpy f g sp.toNatClampNeg dp.toNatClampNeg n.toNatClampNeg)) := by simp [Array.getElem?_setIfInBounds, hl]
      have z2 : va_cpy f g sp.toNatClampNeg dp.toNatClampNeg n.toNatClampNeg i = f i := by
        unfold va_cpy
        rw [if_pos ⟨by omega, by omega⟩, show sp.toNatClampNeg + (i - dp.toNatClampNeg) = i by omega]
      exact ((el_arr z1 (show i < n1 by omega)).trans (congrArg some z2)).trans (el_arr hc0 (show i < n0 by omega)).symm) ⟨by simp; exact hS.1, fun q g1 g2 => by
      rw [oq q (fun e => g2 (by rw [e]; exact haA))]
      exact hS.2.1 q g1 g2, fun q hq => by
      rcases List.mem_append.mp hq with h | h
      · exact hS.2.2 q h
      · obtain ⟨z, -, hz⟩ := List.mem_map.mp h
        rw [← hz]
        exact haA⟩ _ hheap X'
  exact ⟨t, step t a1, b1⟩
end TWCE
