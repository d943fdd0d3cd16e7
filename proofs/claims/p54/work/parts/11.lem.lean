theorem i0 : (0 : Int32).toInt = 0 := by decide
theorem vin {x M : Int32} {n : Nat} (h : 0 ≤ x ∧ x ≤ M) (hM : M.toInt < n) : vp_in x n := by
  have h1 := Int32.le_iff_toInt_le.mp h.1
  have h2 := Int32.le_iff_toInt_le.mp h.2
  rw [i0] at h1
  exact vp_in_iff.mpr ⟨h1, by omega⟩
theorem ia_toInt {c x M : Int32} (h : 0 ≤ x ∧ x ≤ M) (hc : 0 ≤ c.toInt) (hM : c.toInt + M.toInt < 2 ^ 31) : (c + x).toInt = c.toInt + x.toInt := by
  have h1 := Int32.le_iff_toInt_le.mp h.1
  have h2 := Int32.le_iff_toInt_le.mp h.2
  rw [i0] at h1
  rw [Int32.toInt_add, Int.bmod_eq_of_le (by omega) (by omega)]
theorem vin_add {c x M : Int32} {n : Nat} (h : 0 ≤ x ∧ x ≤ M) (hc : 0 ≤ c.toInt) (hM : c.toInt + M.toInt < n) (hn : n < 2 ^ 31) : vp_in (c + x) n := by
  have h1 := Int32.le_iff_toInt_le.mp h.1
  have h2 := Int32.le_iff_toInt_le.mp h.2
  rw [i0] at h1
  refine vp_in_iff.mpr ?_
  rw [ia_toInt h hc (by omega)]
  omega
theorem no01 {w : Int32} : ¬ (0 ≤ w ∧ w ≤ -1) := fun h => by
  have h1 := Int32.le_iff_toInt_le.mp h.1
  have h2 := Int32.le_iff_toInt_le.mp h.2
  rw [i0] at h1
  have h3 : (-1 : Int32).toInt = -1 := by decide
  omega
theorem lg_cmp_self (x : Int64) : lg_cmp x x = 0 := by simp [lg_cmp]
/-- a callee that never returns -/
theorem vx_callN {p : Program} {l : Launch} {e : Env} {R : Room} {s : State} {m : MethodId} {args : Array Value} {below : List Frame} {meth : Method} {c : Code} {H : Heap} {locs : List Loc} {cells slots : Nat} {Q : State → Prop} {mc ms : Nat} {free : Addr → Prop} {A0 : Nat → Prop} {H0 : Heap} {pc : Nat} {ls : Array Slot} {st0 rest : List Value} {SX : Type} {px : SX → Prop} {BX : String → SX → State → Prop} {AX : Nat → Prop}
    (hr : vx_Run p l e R s m args below meth c H locs cells slots mc ms (F0 m pc ls st0) rest (fun _ _ _ => False) (vx_X px BX AX) free) (hS : va_S A0 H0 H locs) (hf : ∀ q, free q → A0 q) (hAX : ∀ q, q < H.size → AX q → A0 q)
    (kx : ∀ (E : String) (ce : Cell) (q9 : Addr) (u : SX) (t : State) (H1 : Heap) (locs1 : List Loc), t.heap = H1 → s.vm.Alike t.vm → px u → BX E u t → H.size ≤ H1.size → (∀ q : Nat, q < H.size → ¬ AX q → H1[q]? = H[q]?) → va_S A0 H0 H1 locs1 → H1[q9]? = some ce → ce.vm = .none → s.vm.findClass E = some ce.cls → vx_W p l e R s m args below meth c H1 locs1 (cells + mc) (slots + ms) Q (F0 m pc ls rest) q9) : W p l e R s m args below meth c H locs cells slots Q (F0 m pc ls st0) := by
  intro T hT X
  rcases hr T hT X with ⟨v, st₀, t, T', L, h0, X', hL, e1, e2, hF, st⟩ | ⟨q, st₀, t, T', L, E, ce, h0, X', hL, e1, e2, ⟨u, hp, hb, hF⟩, hce, hcv, hcl, st⟩
  · exact absurd hF id
  · obtain ⟨k1, k2, k3⟩ := vx_keep h0 e1 hS hAX hf hL hF
    obtain ⟨t2, a1, b1⟩ := kx E ce q u t T'.heap (locs ++ L) e1.symm (by rw [← e2]; exact X'.warmed.alike) hp hb k1 k2 k3 (by rw [e1]; exact hce) hcv hcl T' rfl X'
    exact ⟨t2, st.trans a1, b1⟩
