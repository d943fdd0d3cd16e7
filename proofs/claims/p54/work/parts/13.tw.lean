/-! numbers by their toInt: what the interval walker lays -/
theorem ti_lit {x : Int32} {a : Int} (h : x.toInt = a) : x.toInt = a := h
theorem ti_add {x y z : Int32} {a b : Int} (e : z = x + y) (hx : x.toInt = a) (hy : y.toInt = b) (h1 : -2147483648 ≤ a + b) (h2 : a + b ≤ 2147483647) : z.toInt = a + b := by
  subst e
  rw [Int32.toInt_add, hx, hy]
  exact Int.bmod_eq_of_le (by omega) (by omega)
theorem ti_sub {x y z : Int32} {a b : Int} (e : z = x - y) (hx : x.toInt = a) (hy : y.toInt = b) (h1 : -2147483648 ≤ a - b) (h2 : a - b ≤ 2147483647) : z.toInt = a - b := by
  subst e
  rw [Int32.toInt_sub, hx, hy]
  exact Int.bmod_eq_of_le (by omega) (by omega)
theorem ti_mul {x y z : Int32} {a b : Int} (e : z = x * y) (hx : x.toInt = a) (hy : y.toInt = b) (h1 : -2147483648 ≤ a * b) (h2 : a * b ≤ 2147483647) : z.toInt = a * b := by
  subst e
  rw [Int32.toInt_mul, hx, hy]
  exact Int.bmod_eq_of_le (by omega) (by omega)
theorem ti_neg {x z : Int32} {a : Int} (e : z = -x) (hx : x.toInt = a) (h1 : -2147483647 ≤ a) (h2 : a ≤ 2147483647) : z.toInt = -a := by
  subst e
  rw [Int32.toInt_neg, hx]
  exact Int.bmod_eq_of_le (by omega) (by omega)
theorem ti_div {x y z : Int32} {a d : Int} (e : z = x / y) (hx : x.toInt = a) (hy : y.toInt = d) (h0 : 0 ≤ a) (hd : 0 < d) : z.toInt = a / d := by
  have ha : a ≤ 2147483647 := by rw [← hx]; exact Int.le_of_lt_add_one (by have := Int32.toInt_lt x; omega)
  subst e
  have hle : a / d ≤ a := Int.ediv_le_self d h0
  have hge : 0 ≤ a / d := Int.ediv_nonneg h0 (Int.le_of_lt hd)
  rw [Int32.toInt_div, hx, hy, Int.tdiv_eq_ediv_of_nonneg h0]
  exact Int.bmod_eq_of_le (by omega) (by omega)
theorem ti_rem {x y z : Int32} {a d : Int} (e : z = x - x / y * y) (hx : x.toInt = a) (hy : y.toInt = d) (h0 : 0 ≤ a) (hd : 0 < d) : z.toInt = a % d := by
  have ha : a ≤ 2147483647 := by rw [← hx]; exact Int.le_of_lt_add_one (by have := Int32.toInt_lt x; omega)
  have h1 := ti_div (z := x / y) rfl hx hy h0 hd
  have hm : d * (a / d) + a % d = a := Int.mul_ediv_add_emod a d
  have hr := Int.emod_nonneg a (Int.ne_of_gt hd)
  have hq : 0 ≤ a / d := Int.ediv_nonneg h0 (Int.le_of_lt hd)
  have hp : 0 ≤ d * (a / d) := Int.mul_nonneg (Int.le_of_lt hd) hq
  have hc : a / d * d = d * (a / d) := Int.mul_comm _ _
  have h2 := ti_mul (z := x / y * y) rfl h1 hy (by omega) (by omega)
  have h3 := ti_sub e hx h2 (by omega) (by omega)
  omega
theorem ti_le {x y : Int32} {a b : Int} (h : x ≤ y) (hx : x.toInt = a) (hy : y.toInt = b) : a ≤ b := by rw [← hx, ← hy]; exact Int32.le_iff_toInt_le.mp h
theorem ti_nle {x y : Int32} {a b : Int} (h : ¬ x ≤ y) (hx : x.toInt = a) (hy : y.toInt = b) : b < a := by
  rw [Int32.le_iff_toInt_le, hx, hy] at h
  omega
theorem ti_lt {x y : Int32} {a b : Int} (h : x < y) (hx : x.toInt = a) (hy : y.toInt = b) : a < b := by rw [← hx, ← hy]; exact Int32.lt_iff_toInt_lt.mp h
theorem ti_nlt {x y : Int32} {a b : Int} (h : ¬ x < y) (hx : x.toInt = a) (hy : y.toInt = b) : b ≤ a := by
  rw [Int32.lt_iff_toInt_lt, hx, hy] at h
  omega
theorem ti_eq {x y : Int32} {a b : Int} (h : x = y) (hx : x.toInt = a) (hy : y.toInt = b) : a = b := by rw [← hx, ← hy, h]
theorem ti_ne {x y : Int32} {a b : Int} (h : ¬ x = y) (hx : x.toInt = a) (hy : y.toInt = b) : a ≠ b := fun e => h (Int32.toInt_inj.mp (by rw [hx, hy, e]))
theorem ti_all (x : Int32) : -2147483648 ≤ x.toInt ∧ x.toInt ≤ 2147483647 := ⟨Int32.le_toInt x, by have := Int32.toInt_lt x; omega⟩
theorem ti_max {x y z : Int32} {a b : Int} (e : z = if x < y then y else x) (hx : x.toInt = a) (hy : y.toInt = b) : (a ≤ b ∧ z.toInt = b) ∨ (b ≤ a ∧ z.toInt = a) := by
  by_cases h : x < y
  · rw [if_pos h] at e; subst e; exact Or.inl ⟨Int.le_of_lt (ti_lt h hx hy), hy⟩
  · rw [if_neg h] at e; subst e; exact Or.inr ⟨ti_nlt h hx hy, hx⟩
theorem ti_min {x y z : Int32} {a b : Int} (e : z = if y < x then y else x) (hx : x.toInt = a) (hy : y.toInt = b) : (b ≤ a ∧ z.toInt = b) ∨ (a ≤ b ∧ z.toInt = a) := by
  by_cases h : y < x
  · rw [if_pos h] at e; subst e; exact Or.inl ⟨Int.le_of_lt (ti_lt h hy hx), hy⟩
  · rw [if_neg h] at e; subst e; exact Or.inr ⟨ti_nlt h hy hx, hx⟩
theorem rg_t {x : Int32} {a lo hi : Int} (hx : x.toInt = a) (h1 : lo ≤ a) (h2 : a ≤ hi) : lo ≤ x.toInt ∧ x.toInt ≤ hi := by rw [hx]; exact ⟨h1, h2⟩
theorem vin_t {x : Int32} {a : Int} {n : Nat} (hx : x.toInt = a) (h0 : 0 ≤ a) (h1 : a < n) : vp_in x n := vp_in_iff.mpr ⟨by rw [hx]; exact h0, by rw [hx]; exact h1⟩
/-- the first n places lie between lo and hi -/
def Rg (f : Nat → Int32) (n : Nat) (lo hi : Int) : Prop := ∀ j, j < n → lo ≤ (f j).toInt ∧ (f j).toInt ≤ hi
theorem Rg.set {f : Nat → Int32} {n k : Nat} {lo hi : Int} {v : Int32} (h : Rg f n lo hi) (hv : lo ≤ v.toInt ∧ v.toInt ≤ hi) : Rg (upd f k v) n lo hi := by
  intro j hj
  by_cases e : j = k
  · rw [e, pk_us]; exact hv
  · rw [pk_un e]; exact h j hj
theorem Rg.at {f : Nat → Int32} {n : Nat} {lo hi : Int} {x z : Int32} (h : Rg f n lo hi) (e : z = f x.toNatClampNeg) (hx : vp_in x n) : lo ≤ z.toInt ∧ z.toInt ≤ hi := by
  rw [e]; exact h _ (Nat.not_le.mp fun q => hx (Or.inr q))
theorem Rg.const {n : Nat} {lo hi : Int} {v : Int32} (hv : lo ≤ v.toInt ∧ v.toInt ≤ hi) : Rg (fun _ => v) n lo hi := fun _ _ => hv
theorem Rg.cpy {f g : Nat → Int32} {n c : Nat} {lo hi : Int} (hf : Rg f n lo hi) (hg : Rg g n lo hi) (hc : c ≤ n) : Rg (va_cpy f g 0 0 c) n lo hi := by
  intro j hj
  by_cases h : j < c
  · rw [pk_cpy_in (Nat.zero_le _) (by omega), Nat.zero_add, Nat.sub_zero]; exact hf j hj
  · rw [pk_cpy_out (by omega)]; exact hg j hj
theorem Rg.mono {f : Nat → Int32} {n : Nat} {lo hi lo' hi' : Int} (h : Rg f n lo hi) (h1 : lo' ≤ lo) (h2 : hi ≤ hi') : Rg f n lo' hi' := fun j hj => ⟨Int.le_trans h1 (h j hj).1, Int.le_trans (h j hj).2 h2⟩
theorem ti_nat (x : Int32) (h : 0 ≤ x.toInt) : ∃ n : Nat, (n : Int) = x.toInt ∧ n < 2147483648 ∧ x = nI n := by
  obtain ⟨j, hj, e⟩ := nI_of (x := x) (by rw [Int32.lt_iff_toInt_lt, i0]; omega)
  exact ⟨j, by rw [e, nI_toInt hj], hj, e⟩
theorem bit_of {x : Int32} (h : 0 ≤ x.toInt ∧ x.toInt ≤ 1) : x = 0 ∨ x = 1 := by
  rcases (show x.toInt = 0 ∨ x.toInt = 1 by omega) with e | e
  · exact Or.inl (Int32.toInt_inj.mp (e.trans (by decide)))
  · exact Or.inr (Int32.toInt_inj.mp (e.trans (by decide)))
theorem nar_b {x : Int32} (h : 0 ≤ x.toInt ∧ x.toInt ≤ 1) : narrow .boolean (.int x) = .int x := by
  rcases bit_of h with rfl | rfl <;> decide
theorem fit_b {x : Int32} (h : 0 ≤ x.toInt ∧ x.toInt ≤ 1) : fits .boolean (.int x) = true := by
  rcases bit_of h with rfl | rfl <;> decide
/-! the typed heap: an address with a tag holds a cell of the tag's shape, whose places keep their kinds -/
abbrev gT : Type := Nat → Option Nat
abbrev gE : Type := gT → Nat → Value → Prop
abbrev gS : Type := (Nat × Nat × gE) ⊕ (Nat × Nat × gE)
def gI (lo hi : Int) : gT → Value → Prop := fun _ v => ∃ x : Int32, v = .int x ∧ lo ≤ x.toInt ∧ x.toInt ≤ hi
def gJ : gT → Value → Prop := fun _ v => ∃ x : Int64, v = .long x
def gR (t : Nat) : gT → Value → Prop := fun G v => ∃ a : Nat, v = .ref a ∧ G a = some t
def gX (b t : Nat) : gT → Value → Prop := fun G v => v = .ref b ∧ G b = some t
def gN (t : Nat) : gT → Value → Prop := fun G v => ∃ r : Option Nat, v = va_rf r ∧ ∀ a, r = some a → G a = some t
def gl (ks : List (gT → Value → Prop)) : gE := fun G i v => ∀ k, ks[i]? = some k → k G v
def ga (k : gT → Value → Prop) : gE := fun G _ v => k G v
def gp (lo hi : Nat → Int) : gE := fun _ i v => ∃ x : Int32, v = .int x ∧ lo i ≤ x.toInt ∧ x.toInt ≤ hi i
def gC (D : va_G) (kA : Nat → ClassId) (sh : gS) (G : gT) (a : Nat) (H : Heap) : Prop := match sh with
  | .inl o => ∃ V : Nat → Value, t_OB a (D.1 o.1) o.2.1 (D.2 o.1) H V ∧ ∀ k, k < o.2.1 → o.2.2 G k (V k)
  | .inr o => ∃ V : Nat → Value, H[a]? = some (arrV (kA o.1) o.2.1 V) ∧ ∀ k, k < o.2.1 → o.2.2 G k (V k)
def gH (D : va_G) (kA : Nat → ClassId) (Sg : Nat → gS) (G : gT) (H : Heap) : Prop := ∀ a t : Nat, G a = some t → gC D kA (Sg t) G a H
def el (H : Heap) (a i : Nat) : Option Value := (H[a]?).bind fun c => c.slots[i]?
def gA (G : gT) (sz : Nat) : Nat → Prop := fun q => (∃ t, G q = some t) ∨ sz ≤ q
/-- what a method leaves as it was: all places of all tags but those of M -/
def gF (D : va_G) (Sk : Nat → gS) (G : gT) (M : List (Nat × Nat)) (H0 H : Heap) : Prop := ∀ a t : Nat, G a = some t → match Sk t with
  | .inl o => ∀ k, k < o.2.1 → (t, k) ∉ M → el H a (D.2 o.1 k) = el H0 a (D.2 o.1 k)
  | .inr _ => (t, 0) ∉ M → H[a]? = H0[a]?
theorem gF.rf {D : va_G} {Sk : Nat → gS} {G : gT} {M : List (Nat × Nat)} {H : Heap} : gF D Sk G M H H := by
  intro a t _
  cases Sk t with
  | inl o => exact fun _ _ _ => rfl
  | inr o => exact fun _ => rfl
theorem gF.fld {D : va_G} {Sk : Nat → gS} {G : gT} {M : List (Nat × Nat)} {H0 H : Heap} (h : gF D Sk G M H0 H) {a t ci N k : Nat} {E : gE} (ha : G a = some t) (hs : Sk t = .inl (ci, N, E)) (hk : k < N) (hm : (t, k) ∉ M) : el H a (D.2 ci k) = el H0 a (D.2 ci k) := by
  have := h a t ha
  rw [hs] at this
  exact this k hk hm
theorem gF.arr {D : va_G} {Sk : Nat → gS} {G : gT} {M : List (Nat × Nat)} {H0 H : Heap} (h : gF D Sk G M H0 H) {a t j n : Nat} {E : gE} (ha : G a = some t) (hs : Sk t = .inr (j, n, E)) (hm : (t, 0) ∉ M) : H[a]? = H0[a]? := by
  have := h a t ha
  rw [hs] at this
  exact this hm
theorem el_kept {H H1 : Heap} {a i : Nat} (h : H1[a]? = H[a]?) : el H1 a i = el H a i := by unfold el; rw [h]
theorem gF.more {D : va_G} {Sk : Nat → gS} {G : gT} {M M1 : List (Nat × Nat)} {H0 H H1 : Heap} (h : gF D Sk G M H0 H) (h1 : gF D Sk G M1 H H1) (hm : ∀ x ∈ M1, x ∈ M) : gF D Sk G M H0 H1 := by
  intro a t ha
  have q := h a t ha
  have q1 := h1 a t ha
  revert q q1
  cases Sk t with
  | inl o => exact fun q q1 k hk hn => (q1 k hk (fun z => hn (hm _ z))).trans (q k hk hn)
  | inr o => exact fun q q1 hn => (q1 (fun z => hn (hm _ z))).trans (q hn)
/-- a store into a field -/
theorem gF.put {D : va_G} {Sk : Nat → gS} {G : gT} {M : List (Nat × Nat)} {H0 H H1 : Heap} {a t ci N k : Nat} {E : gE} (h : gF D Sk G M H0 H) (ha : G a = some t) (hs : Sk t = .inl (ci, N, E)) (oq : ∀ q, q ≠ a → H1[q]? = H[q]?) (oj : ∀ j, j < N → j ≠ k → el H1 a (D.2 ci j) = el H a (D.2 ci j)) (hm : (t, k) ∈ M) : gF D Sk G M H0 H1 := by
  refine h.more (M1 := [(t, k)]) ?_ (fun x hx => by rw [List.mem_singleton.mp hx]; exact hm)
  intro b u hb
  by_cases e : b = a
  · subst e
    have : u = t := Option.some.inj (hb.symm.trans ha)
    subst this
    rw [hs]
    exact fun j hj hn => oj j hj (fun z => hn (by rw [z]; exact List.mem_singleton.mpr rfl))
  · cases Sk u with
    | inl o => exact fun _ _ _ => el_kept (oq b e)
    | inr o => exact fun _ => oq b e
theorem gF.ast {D : va_G} {Sk : Nat → gS} {G : gT} {M : List (Nat × Nat)} {H0 H H1 : Heap} {a t j n : Nat} {E : gE} (h : gF D Sk G M H0 H) (ha : G a = some t) (hs : Sk t = .inr (j, n, E)) (oq : ∀ q, q ≠ a → H1[q]? = H[q]?) (hm : (t, 0) ∈ M) : gF D Sk G M H0 H1 := by
  refine h.more (M1 := [(t, 0)]) ?_ (fun x hx => by rw [List.mem_singleton.mp hx]; exact hm)
  intro b u hb
  by_cases e : b = a
  · subst e
    have : u = t := Option.some.inj (hb.symm.trans ha)
    subst this
    rw [hs]
    exact fun hn => absurd (List.mem_singleton.mpr rfl) hn
  · cases Sk u with
    | inl o => exact fun _ _ _ => el_kept (oq b e)
    | inr o => exact fun _ => oq b e
theorem gC.kept {D : va_G} {kA : Nat → ClassId} {sh : gS} {G : gT} {a : Nat} {H H1 : Heap} (h : gC D kA sh G a H) (hq : H1[a]? = H[a]?) : gC D kA sh G a H1 := by
  cases sh with
  | inl o =>
    obtain ⟨V, h1, h2⟩ := h
    exact ⟨V, h1.kept hq, h2⟩
  | inr o =>
    obtain ⟨V, h1, h2⟩ := h
    exact ⟨V, hq.trans h1, h2⟩
theorem gH.put {D : va_G} {kA : Nat → ClassId} {Sg : Nat → gS} {G : gT} {H H1 : Heap} {a t : Nat} (h : gH D kA Sg G H) (ha : G a = some t) (hc : gC D kA (Sg t) G a H1) (oq : ∀ q, q ≠ a → H1[q]? = H[q]?) : gH D kA Sg G H1 := by
  intro b u hb
  by_cases e : b = a
  · subst e
    have : u = t := Option.some.inj (hb.symm.trans ha)
    subst this
    exact hc
  · exact (h b u hb).kept (oq b e)
theorem gne {G : gT} {a b t u : Nat} (ha : G a = some t) (hb : G b = some u) (h : t ≠ u) : a ≠ b := fun e => h (Option.some.inj (ha.symm.trans (by rw [e]; exact hb)))
theorem el_put {D : va_G} {H H1 : Heap} {a b ci N k j : Nat} (oq : ∀ q, q ≠ a → H1[q]? = H[q]?) (oj : ∀ j, j < N → j ≠ k → el H1 a (D.2 ci j) = el H a (D.2 ci j)) (hj : j < N) (hjk : j ≠ k) : el H1 b (D.2 ci j) = el H b (D.2 ci j) := by
  by_cases e : b = a
  · rw [e]; exact oj j hj hjk
  · exact el_kept (oq b e)
theorem gA_of {G : gT} {s : Nat} {A : Nat → Prop} (h : gA G s = A) : ∀ q t, G q = some t → A q := fun _ t hq => by rw [← h]; exact Or.inl ⟨t, hq⟩
theorem gA_free {G : gT} {A : Nat → Prop} {H0 H : Heap} {locs : List Loc} (hG : ∀ q t, G q = some t → A q) (hA : ∀ q, H0.size ≤ q → A q) (hS : va_S A H0 H locs) : ∀ q, gA G H.size q → A q := by
  intro q h
  rcases h with ⟨t, h⟩ | h
  · exact hG q t h
  · exact hA q (Nat.le_trans hS.1 h)
theorem gH_recv {D : va_G} {kA : Nat → ClassId} {Sg : Nat → gS} {G : gT} {H : Heap} {s : State} {cl : List vw_C} {tys : List (ClassId × FieldType)} {q : vw_C} {a t ci N : Nat} {E : gE} (hK : va_K D cl tys s) (hT : gH D kA Sg G H) (ha : G a = some t) (hs : Sg t = .inl (ci, N, E)) (hc : cl[ci]? = some q) : ∃ cell : Cell, H[a]? = some cell ∧ cell.vm.isStatics = false ∧ s.vm.findClass q.1 = some cell.cls := by
  have h := hT a t ha
  rw [hs] at h
  obtain ⟨V, ⟨cell, g1, g2, g3, -⟩, -⟩ := h
  exact ⟨cell, g1, by rw [g3]; rfl, by rw [g2]; exact (hK.1 ci q hc).2.1⟩
section TWL
variable {p : Program} {l : Launch} {e : Env} {R : Room} {s : State} {m : MethodId} {args : Array Value} {below : List Frame} {meth : Method} {c : Code} {H : Heap} {locs : List Loc} {cells slots : Nat} {Q : State → Prop}
variable {cc : ByteArray} {pc : Nat} {ls : Array Slot} {rest : List Value} {D : va_G} {cl : List vw_C} {A : Nat → Prop} {a : Nat} {tys : List (ClassId × FieldType)} {H0 : Heap} {kA : Nat → ClassId} {Sg : Nat → gS} {G : gT} {t : Nat} {E : gE}
theorem tw_get (hexec : p.tables.exec = Jvm.exec) (hb : c.code = cc) {own ref C : String} {T : u_T} {N ci index : Nat} {Ts : List Cond} (hts : ∀ w ∈ Ts, w.before args s = true) (hin : ∀ w ∈ u_ws C T N, w ∈ Ts) (hown : s.vm.findClass own = some m.cls) (hK : va_K D cl tys s) (hT : gH D kA Sg G H) (ha : G a = some t) (hs : Sg t = .inl (ci, N, E)) (hc : cl[ci]? = some (C, T, N)) (k : Nat) (hk : k < N) (hlink : (Cond.fieldLink own index ref (T k).2.1 (T k).2.2.1).before args s = true) (hsame : ∀ x, s.fieldFound? (T k).1 (T k).2.1 (T k).2.2.1 = some x → s.fieldFound? ref (T k).2.1 (T k).2.2.1 = some x) (hdg : decode cc pc = .ok (.getfield index, 3))
    (kk : ∀ v, el H a (D.2 ci k) = some v → E G k v → W p l e R s m args below meth c H locs cells slots Q (F0 m (pc + 3) ls (v :: rest))) : W p l e R s m args below meth c H locs cells slots Q (F0 m pc ls (.ref a :: rest)) := by
  have h := hT a t ha
  rw [hs] at h
  obtain ⟨V, ⟨cell, q1, q2, q3, q4⟩, hE⟩ := h
  have hv : el H a (D.2 ci k) = some (V k) := by unfold el; rw [q1]; exact q4 k hk
  obtain ⟨hS, hfc, kC, hkC, hkind⟩ := hK.1 ci _ hc
  obtain ⟨cf, kf, fi, f, hi, hsl⟩ := hS k hk
  refine W.getf hexec hb hown hlink (hsame _ hi) (u_facts hfc hkC (u_lays hts hin hk) hi).1 q1 (by rw [q3]; exact fun h => by cases h) (v := V k) ?_ rfl rfl hdg (kk (V k) hv (hE k hk))
  rw [hsl, q4 k hk]
theorem tw_getM (hexec : p.tables.exec = Jvm.exec) (hb : c.code = cc) {own ref C : String} {T : u_T} {N ci index : Nat} {Ts : List Cond} (hts : ∀ w ∈ Ts, w.before args s = true) (hin : ∀ w ∈ u_ws C T N, w ∈ Ts) (hown : s.vm.findClass own = some m.cls) (hK : va_K D cl tys s) (hT : gH D kA Sg G H) (ha : G a = some t) (hs : Sg t = .inl (ci, N, E)) (hc : cl[ci]? = some (C, T, N)) (k : Nat) (hk : k < N) (hlink : (Cond.fieldLink own index ref (T k).2.1 (T k).2.2.1).before args s = true) (hsame : ∀ x, s.fieldFound? (T k).1 (T k).2.1 (T k).2.2.1 = some x → s.fieldFound? ref (T k).2.1 (T k).2.2.1 = some x) {v : Value} (hm : el H a (D.2 ci k) = some v) (hdg : decode cc pc = .ok (.getfield index, 3))
    (kk : W p l e R s m args below meth c H locs cells slots Q (F0 m (pc + 3) ls (v :: rest))) : W p l e R s m args below meth c H locs cells slots Q (F0 m pc ls (.ref a :: rest)) := by
  refine tw_get hexec hb hts hin hown hK hT ha hs hc k hk hlink hsame hdg (fun v' h _ => ?_)
  rw [hm] at h
  cases h
  exact kk
theorem tw_put (hexec : p.tables.exec = Jvm.exec) (hb : c.code = cc) {own ref C : String} {T : u_T} {N ci index : Nat} {Ts : List Cond} (hts : ∀ w ∈ Ts, w.before args s = true) (hin : ∀ w ∈ u_ws C T N, w ∈ Ts) (ty0 : Nat → FieldType) (hty : ∀ k, k < N → parseFieldDescriptor (T k).2.2.1 = some (ty0 k)) (hnm : ∀ a, a < N → ∀ b, b < N → a ≠ b → (T a).2.1 ≠ (T b).2.1) (hown : s.vm.findClass own = some m.cls) (hK : va_K D cl tys s) (hT : gH D kA Sg G H) (hG : ∀ q t, G q = some t → A q) (hS0 : va_S A H0 H locs) (ha : G a = some t) (hs : Sg t = .inl (ci, N, E)) (hc : cl[ci]? = some (C, T, N)) (k : Nat) (hk : k < N) (hlink : (Cond.fieldLink own index ref (T k).2.1 (T k).2.2.1).before args s = true) (hsame : ∀ x, s.fieldFound? (T k).1 (T k).2.1 (T k).2.2.1 = some x → s.fieldFound? ref (T k).2.1 (T k).2.2.1 = some x) (hfin : (T k).2.2.2 = false) {ty : FieldType} {v : Value} (hd : parseFieldDescriptor (T k).2.2.1 = some ty) (hn : narrow ty v = v) (hfit : fits ty v = true) (hE : E G k v)
    (hdg : decode cc pc = .ok (.putfield index, 3)) (kk : ∀ (H1 : Heap) (locs1 : List Loc), gH D kA Sg G H1 → (∀ q, q ≠ a → H1[q]? = H[q]?) → el H1 a (D.2 ci k) = some v → (∀ j, j < N → j ≠ k → el H1 a (D.2 ci j) = el H a (D.2 ci j)) → va_S A H0 H1 locs1 → W p l e R s m args below meth c H1 locs1 cells slots Q (F0 m (pc + 3) ls rest)) : W p l e R s m args below meth c H locs cells slots Q (F0 m pc ls (v :: .ref a :: rest)) := by
  have hap := va_apart (own := own) hts hin ty0 hty hnm hK hc
  have h := hT a t ha
  rw [hs] at h
  obtain ⟨V, ⟨cell, q1, q2, q3, q4⟩, hE0⟩ := h
  obtain ⟨hS, hfc, kC, hkC, hkind⟩ := hK.1 ci _ hc
  obtain ⟨cf, kf, fi, f, hi, hsl⟩ := hS k hk
  have hlay := hts _ (hin _ (u_in_lay hk))
  unfold u_lay at hlay
  rw [if_neg (by rw [hfin]; decide)] at hlay
  have hst := (u_facts hfc hkC (u_lays hts hin hk) hi).1
  have h6 := u_store hfc hkC hkind hlay hi hd hn hfit
  refine W.putK hexec hb (f := f) ⟨hown, hlink, ⟨_, _, _, hsame _ hi⟩, hst⟩ (by rw [q2]; exact h6) q1 q3 (by rw [hsl]; exact k2_hasslot (q4 k hk)) rfl rfl hdg fun H' e1 e2 e3 => ?_
  rw [hsl] at e1 ⊢
  have hV : ∀ j, j < N → (cell.setSlot (D.2 ci k) v).slots[D.2 ci j]? = some (updV V k v j) := t_set q4 hap hk v
  refine kk H' _ (hT.put ha ?_ e3) e3 ?_ ?_ (hS0.put e2 e3 (hG a t ha))
  · rw [hs]
    refine ⟨updV V k v, ⟨_, e1, q2, q3, hV⟩, fun j hj => ?_⟩
    show E G j (if j = k then v else V j)
    by_cases hjk : j = k
    · rw [if_pos hjk, hjk]; exact hE
    · rw [if_neg hjk]; exact hE0 j hj
  · unfold el
    rw [e1]
    have := hV k hk
    rw [show updV V k v k = v from if_pos rfl] at this
    exact this
  · intro j hj hjk
    unfold el
    rw [e1, q1]
    have := hV j hj
    rw [show updV V k v j = V j from if_neg hjk] at this
    exact this.trans (q4 j hj).symm
theorem tw_iald (hexec : p.tables.exec = Jvm.exec) (hb : c.code = cc) {j n : Nat} (hK : va_K D cl tys s) (hT : gH D kA Sg G H) (ha : G a = some t) (hs : Sg t = .inr (j, n, E)) (ht : tys[j]? = some (kA j, .int)) {i : Int32} (hin : vp_in i n) (hdg : decode cc pc = .ok (.iaload, 1))
    (kk : ∀ v, el H a i.toNatClampNeg = some v → E G i.toNatClampNeg v → W p l e R s m args below meth c H locs cells slots Q (F0 m (pc + 1) ls (v :: rest))) : W p l e R s m args below meth c H locs cells slots Q (F0 m pc ls (.int i :: .ref a :: rest)) := by
  have h := hT a t ha
  rw [hs] at h
  obtain ⟨V, q1, hE⟩ := h
  have hlt : i.toNatClampNeg < n := Nat.not_le.mp fun q => hin (Or.inr q)
  have hrd : (arrV (kA j) n V).slots[i.toNatClampNeg]? = some (V i.toNatClampNeg) := arrV_read _ _ hlt
  exact W.iald (v := V i.toNatClampNeg) hexec hb q1 ((hK.2 j _ ht).1 n V) (fun q => by cases q) (by rw [arrV_size]; exact hin) hrd rfl rfl hdg (kk _ (by unfold el; rw [q1]; exact hrd) (hE _ hlt))
theorem tw_zald (hexec : p.tables.exec = Jvm.exec) (hb : c.code = cc) {j n : Nat} (hK : va_K D cl tys s) (hT : gH D kA Sg G H) (ha : G a = some t) (hs : Sg t = .inr (j, n, E)) (ht : tys[j]? = some (kA j, .boolean)) {i : Int32} (hin : vp_in i n) (hdg : decode cc pc = .ok (.baload, 1))
    (kk : ∀ v, el H a i.toNatClampNeg = some v → E G i.toNatClampNeg v → W p l e R s m args below meth c H locs cells slots Q (F0 m (pc + 1) ls (v :: rest))) : W p l e R s m args below meth c H locs cells slots Q (F0 m pc ls (.int i :: .ref a :: rest)) := by
  have h := hT a t ha
  rw [hs] at h
  obtain ⟨V, q1, hE⟩ := h
  have hlt : i.toNatClampNeg < n := Nat.not_le.mp fun q => hin (Or.inr q)
  have hrd : (arrV (kA j) n V).slots[i.toNatClampNeg]? = some (V i.toNatClampNeg) := arrV_read _ _ hlt
  exact W.zald (v := V i.toNatClampNeg) hexec hb q1 ((hK.2 j _ ht).1 n V) (fun q => by cases q) (by rw [arrV_size]; exact hin) hrd rfl rfl hdg (kk _ (by unfold el; rw [q1]; exact hrd) (hE _ hlt))
theorem tw_bald (hexec : p.tables.exec = Jvm.exec) (hb : c.code = cc) {j n : Nat} (hK : va_K D cl tys s) (hT : gH D kA Sg G H) (ha : G a = some t) (hs : Sg t = .inr (j, n, E)) (ht : tys[j]? = some (kA j, .byte)) {i : Int32} (hin : vp_in i n) (hdg : decode cc pc = .ok (.baload, 1))
    (kk : ∀ v, el H a i.toNatClampNeg = some v → E G i.toNatClampNeg v → W p l e R s m args below meth c H locs cells slots Q (F0 m (pc + 1) ls (v :: rest))) : W p l e R s m args below meth c H locs cells slots Q (F0 m pc ls (.int i :: .ref a :: rest)) := by
  have h := hT a t ha
  rw [hs] at h
  obtain ⟨V, q1, hE⟩ := h
  have hlt : i.toNatClampNeg < n := Nat.not_le.mp fun q => hin (Or.inr q)
  have hrd : (arrV (kA j) n V).slots[i.toNatClampNeg]? = some (V i.toNatClampNeg) := arrV_read _ _ hlt
  exact W.bald (v := V i.toNatClampNeg) hexec hb q1 ((hK.2 j _ ht).1 n V) (fun q => by cases q) (by rw [arrV_size]; exact hin) hrd rfl rfl hdg (kk _ (by unfold el; rw [q1]; exact hrd) (hE _ hlt))
theorem tw_lald (hexec : p.tables.exec = Jvm.exec) (hb : c.code = cc) {j n : Nat} (hK : va_K D cl tys s) (hT : gH D kA Sg G H) (ha : G a = some t) (hs : Sg t = .inr (j, n, E)) (ht : tys[j]? = some (kA j, .long)) {i : Int32} (hin : vp_in i n) (hdg : decode cc pc = .ok (.laload, 1))
    (kk : ∀ v, el H a i.toNatClampNeg = some v → E G i.toNatClampNeg v → W p l e R s m args below meth c H locs cells slots Q (F0 m (pc + 1) ls (v :: rest))) : W p l e R s m args below meth c H locs cells slots Q (F0 m pc ls (.int i :: .ref a :: rest)) := by
  have h := hT a t ha
  rw [hs] at h
  obtain ⟨V, q1, hE⟩ := h
  have hlt : i.toNatClampNeg < n := Nat.not_le.mp fun q => hin (Or.inr q)
  have hrd : (arrV (kA j) n V).slots[i.toNatClampNeg]? = some (V i.toNatClampNeg) := arrV_read _ _ hlt
  exact W.lald (v := V i.toNatClampNeg) hexec hb q1 ((hK.2 j _ ht).1 n V) (fun q => by cases q) (by rw [arrV_size]; exact hin) hrd rfl rfl hdg (kk _ (by unfold el; rw [q1]; exact hrd) (hE _ hlt))
theorem tw_aald (hexec : p.tables.exec = Jvm.exec) (hb : c.code = cc) {j n : Nat} {C : String} (hK : va_K D cl tys s) (hT : gH D kA Sg G H) (ha : G a = some t) (hs : Sg t = .inr (j, n, E)) (ht : tys[j]? = some (kA j, .object C)) {i : Int32} (hin : vp_in i n) (hdg : decode cc pc = .ok (.aaload, 1))
    (kk : ∀ v, el H a i.toNatClampNeg = some v → E G i.toNatClampNeg v → W p l e R s m args below meth c H locs cells slots Q (F0 m (pc + 1) ls (v :: rest))) : W p l e R s m args below meth c H locs cells slots Q (F0 m pc ls (.int i :: .ref a :: rest)) := by
  have h := hT a t ha
  rw [hs] at h
  obtain ⟨V, q1, hE⟩ := h
  have hlt : i.toNatClampNeg < n := Nat.not_le.mp fun q => hin (Or.inr q)
  have hrd : (arrV (kA j) n V).slots[i.toNatClampNeg]? = some (V i.toNatClampNeg) := arrV_read _ _ hlt
  exact W.aald (v := V i.toNatClampNeg) (ty := .object C) hexec hb q1 ((hK.2 j _ ht).1 n V) rfl (fun q => by cases q) (by rw [arrV_size]; exact hin) hrd rfl rfl hdg (kk _ (by unfold el; rw [q1]; exact hrd) (hE _ hlt))
/-- what a store into an array leaves -/
theorem tw_kept {j n i : Nat} {V : Nat → Value} {v : Value} {H1 : Heap} (hT : gH D kA Sg G H) (ha : G a = some t) (hs : Sg t = .inr (j, n, E)) (q1 : H[a]? = some (arrV (kA j) n V)) (hE : ∀ k, k < n → E G k (V k)) (hlt : i < n) (hv : E G i v) (e : H1[a]? = some ((arrV (kA j) n V).setSlot i v)) (oq : ∀ q, q ≠ a → H1[q]? = H[q]?) : gH D kA Sg G H1 ∧ el H1 a i = some v ∧ ∀ k, k ≠ i → el H1 a k = el H a k := by
  rw [arrV_store] at e
  refine ⟨hT.put ha ?_ oq, ?_, ?_⟩
  · rw [hs]
    refine ⟨_, e, fun k hk => ?_⟩
    show E G k (if k = i then v else V k)
    by_cases hki : k = i
    · rw [if_pos hki, hki]; exact hv
    · rw [if_neg hki]; exact hE k hk
  · unfold el
    rw [e]
    have := arrV_read (kA j) (updV V i v) hlt
    rw [show updV V i v i = v from if_pos rfl] at this
    exact this
  · intro k hk
    unfold el
    rw [e, q1]
    show (arrV _ _ _).slots[k]? = (arrV _ _ _).slots[k]?
    by_cases hkn : k < n
    · rw [arrV_read _ _ hkn, arrV_read _ _ hkn, show updV V i v k = V k from if_neg hk]
    · rw [Array.getElem?_eq_none (by rw [arrV_size]; omega), Array.getElem?_eq_none (by rw [arrV_size]; omega)]
theorem tw_iast (hexec : p.tables.exec = Jvm.exec) (hb : c.code = cc) {j n : Nat} (hK : va_K D cl tys s) (hT : gH D kA Sg G H) (hG : ∀ q t, G q = some t → A q) (hS0 : va_S A H0 H locs) (ha : G a = some t) (hs : Sg t = .inr (j, n, E)) (ht : tys[j]? = some (kA j, .int)) {i x : Int32} (hin : vp_in i n) (hv : E G i.toNatClampNeg (.int x)) (hdg : decode cc pc = .ok (.iastore, 1))
    (kk : ∀ (H1 : Heap) (locs1 : List Loc), gH D kA Sg G H1 → (∀ q, q ≠ a → H1[q]? = H[q]?) → el H1 a i.toNatClampNeg = some (.int x) → (∀ k, k ≠ i.toNatClampNeg → el H1 a k = el H a k) → va_S A H0 H1 locs1 → W p l e R s m args below meth c H1 locs1 cells slots Q (F0 m (pc + 1) ls rest)) : W p l e R s m args below meth c H locs cells slots Q (F0 m pc ls (.int x :: .int i :: .ref a :: rest)) := by
  have h := hT a t ha
  rw [hs] at h
  obtain ⟨V, q1, hE⟩ := h
  have hlt : i.toNatClampNeg < n := Nat.not_le.mp fun q => hin (Or.inr q)
  refine W.iast hexec hb q1 ((hK.2 j _ ht).1 n V) (fun q => by cases q) (by rw [arrV_size]; exact hin) rfl rfl hdg fun H1 e z oq => ?_
  obtain ⟨k1, k2, k3⟩ := tw_kept hT ha hs q1 hE hlt hv e oq
  exact kk H1 _ k1 oq k2 k3 (hS0.put z oq (hG a t ha))
/-- a store into an array of which there is one alone, with another predicate behind it -/
theorem tw_iast2 (hexec : p.tables.exec = Jvm.exec) (hb : c.code = cc) {j n : Nat} {Sg1 : Nat → gS} {E1 : gE} (hK : va_K D cl tys s) (hT : gH D kA Sg G H) (hG : ∀ q t, G q = some t → A q) (hS0 : va_S A H0 H locs) (ha : G a = some t) (hs : Sg t = .inr (j, n, E)) (ht : tys[j]? = some (kA j, .int)) (hs1 : Sg1 t = .inr (j, n, E1)) (ho : ∀ u, u ≠ t → Sg1 u = Sg u) (hu : ∀ b, G b = some t → b = a) {i x : Int32} (hin : vp_in i n) (hv : E1 G i.toNatClampNeg (.int x)) (hm : ∀ k, k < n → k ≠ i.toNatClampNeg → ∀ v, el H a k = some v → E G k v → E1 G k v) (hdg : decode cc pc = .ok (.iastore, 1))
    (kk : ∀ (H1 : Heap) (locs1 : List Loc), gH D kA Sg1 G H1 → (∀ q, q ≠ a → H1[q]? = H[q]?) → el H1 a i.toNatClampNeg = some (.int x) → (∀ k, k ≠ i.toNatClampNeg → el H1 a k = el H a k) → va_S A H0 H1 locs1 → W p l e R s m args below meth c H1 locs1 cells slots Q (F0 m (pc + 1) ls rest)) : W p l e R s m args below meth c H locs cells slots Q (F0 m pc ls (.int x :: .int i :: .ref a :: rest)) := by
  have h := hT a t ha
  rw [hs] at h
  obtain ⟨V, q1, hE⟩ := h
  have q1 : H[a]? = some (arrV (kA j) n V) := q1
  have hlt : i.toNatClampNeg < n := Nat.not_le.mp fun q => hin (Or.inr q)
  have hel : ∀ k, k < n → el H a k = some (V k) := fun k hk => by
    unfold el; rw [q1]; exact arrV_read _ _ hk
  refine W.iast hexec hb q1 ((hK.2 j _ ht).1 n V) (fun q => by cases q) (by rw [arrV_size]; exact hin) rfl rfl hdg fun H1 e z oq => ?_
  rw [arrV_store] at e
  have hel1 : ∀ k, k < n → el H1 a k = some (updV V i.toNatClampNeg (.int x) k) := fun k hk => by
    unfold el; rw [e]; exact arrV_read _ _ hk
  refine kk H1 _ ?_ oq ?_ ?_ (hS0.put z oq (hG a t ha))
  · intro b u hb'
    by_cases hut : u = t
    · subst hut
      have hba := hu b hb'
      subst hba
      rw [hs1]
      refine ⟨_, e, fun k hk => ?_⟩
      show E1 G k (if k = i.toNatClampNeg then .int x else V k)
      by_cases hki : k = i.toNatClampNeg
      · rw [if_pos hki, hki]; exact hv
      · rw [if_neg hki]; exact hm k hk hki _ (hel k hk) (hE k hk)
    · rw [ho u hut]
      have hba : b ≠ a := fun q => hut (Option.some.inj (hb'.symm.trans (by rw [q]; exact ha)))
      exact (hT b u hb').kept (oq b hba)
  · have := hel1 _ hlt
    rw [show updV V i.toNatClampNeg (.int x) i.toNatClampNeg = .int x from if_pos rfl] at this
    exact this
  · intro k hk
    by_cases hkn : k < n
    · rw [hel1 k hkn, hel k hkn, show updV V i.toNatClampNeg (.int x) k = V k from if_neg hk]
    · unfold el
      rw [e, q1]
      show (arrV _ _ _).slots[k]? = (arrV _ _ _).slots[k]?
      rw [Array.getElem?_eq_none (by rw [arrV_size]; omega), Array.getElem?_eq_none (by rw [arrV_size]; omega)]
theorem tw_zast (hexec : p.tables.exec = Jvm.exec) (hb : c.code = cc) {j n : Nat} (hK : va_K D cl tys s) (hT : gH D kA Sg G H) (hG : ∀ q t, G q = some t → A q) (hS0 : va_S A H0 H locs) (ha : G a = some t) (hs : Sg t = .inr (j, n, E)) (ht : tys[j]? = some (kA j, .boolean)) {i x : Int32} (hin : vp_in i n) (hv : E G i.toNatClampNeg (narrow .boolean (.int x))) (hdg : decode cc pc = .ok (.bastore, 1))
    (kk : ∀ (H1 : Heap) (locs1 : List Loc), gH D kA Sg G H1 → (∀ q, q ≠ a → H1[q]? = H[q]?) → el H1 a i.toNatClampNeg = some (narrow .boolean (.int x)) → (∀ k, k ≠ i.toNatClampNeg → el H1 a k = el H a k) → va_S A H0 H1 locs1 → W p l e R s m args below meth c H1 locs1 cells slots Q (F0 m (pc + 1) ls rest)) : W p l e R s m args below meth c H locs cells slots Q (F0 m pc ls (.int x :: .int i :: .ref a :: rest)) := by
  have h := hT a t ha
  rw [hs] at h
  obtain ⟨V, q1, hE⟩ := h
  have hlt : i.toNatClampNeg < n := Nat.not_le.mp fun q => hin (Or.inr q)
  refine W.zast hexec hb q1 ((hK.2 j _ ht).1 n V) (fun q => by cases q) (by rw [arrV_size]; exact hin) rfl rfl hdg fun H1 e z oq => ?_
  obtain ⟨k1, k2, k3⟩ := tw_kept hT ha hs q1 hE hlt hv e oq
  exact kk H1 _ k1 oq k2 k3 (hS0.put z oq (hG a t ha))
theorem tw_bast (hexec : p.tables.exec = Jvm.exec) (hb : c.code = cc) {j n : Nat} (hK : va_K D cl tys s) (hT : gH D kA Sg G H) (hG : ∀ q t, G q = some t → A q) (hS0 : va_S A H0 H locs) (ha : G a = some t) (hs : Sg t = .inr (j, n, E)) (ht : tys[j]? = some (kA j, .byte)) {i x : Int32} (hin : vp_in i n) (hv : E G i.toNatClampNeg (narrow .byte (.int x))) (hdg : decode cc pc = .ok (.bastore, 1))
    (kk : ∀ (H1 : Heap) (locs1 : List Loc), gH D kA Sg G H1 → (∀ q, q ≠ a → H1[q]? = H[q]?) → el H1 a i.toNatClampNeg = some (narrow .byte (.int x)) → (∀ k, k ≠ i.toNatClampNeg → el H1 a k = el H a k) → va_S A H0 H1 locs1 → W p l e R s m args below meth c H1 locs1 cells slots Q (F0 m (pc + 1) ls rest)) : W p l e R s m args below meth c H locs cells slots Q (F0 m pc ls (.int x :: .int i :: .ref a :: rest)) := by
  have h := hT a t ha
  rw [hs] at h
  obtain ⟨V, q1, hE⟩ := h
  have hlt : i.toNatClampNeg < n := Nat.not_le.mp fun q => hin (Or.inr q)
  refine W.bast hexec hb q1 ((hK.2 j _ ht).1 n V) (fun q => by cases q) (by rw [arrV_size]; exact hin) rfl rfl hdg fun H1 e z oq => ?_
  obtain ⟨k1, k2, k3⟩ := tw_kept hT ha hs q1 hE hlt hv e oq
  exact kk H1 _ k1 oq k2 k3 (hS0.put z oq (hG a t ha))
theorem tw_last (hexec : p.tables.exec = Jvm.exec) (hb : c.code = cc) {j n : Nat} (hK : va_K D cl tys s) (hT : gH D kA Sg G H) (hG : ∀ q t, G q = some t → A q) (hS0 : va_S A H0 H locs) (ha : G a = some t) (hs : Sg t = .inr (j, n, E)) (ht : tys[j]? = some (kA j, .long)) {i : Int32} {x : Int64} (hin : vp_in i n) (hv : E G i.toNatClampNeg (.long x)) (hdg : decode cc pc = .ok (.lastore, 1))
    (kk : ∀ (H1 : Heap) (locs1 : List Loc), gH D kA Sg G H1 → (∀ q, q ≠ a → H1[q]? = H[q]?) → el H1 a i.toNatClampNeg = some (.long x) → (∀ k, k ≠ i.toNatClampNeg → el H1 a k = el H a k) → va_S A H0 H1 locs1 → W p l e R s m args below meth c H1 locs1 cells slots Q (F0 m (pc + 1) ls rest)) : W p l e R s m args below meth c H locs cells slots Q (F0 m pc ls (.long x :: .int i :: .ref a :: rest)) := by
  have h := hT a t ha
  rw [hs] at h
  obtain ⟨V, q1, hE⟩ := h
  have hlt : i.toNatClampNeg < n := Nat.not_le.mp fun q => hin (Or.inr q)
  refine W.last hexec hb q1 ((hK.2 j _ ht).1 n V) (fun q => by cases q) (by rw [arrV_size]; exact hin) rfl rfl hdg fun H1 e z oq => ?_
  obtain ⟨k1, k2, k3⟩ := tw_kept hT ha hs q1 hE hlt hv e oq
  exact kk H1 _ k1 oq k2 k3 (hS0.put z oq (hG a t ha))
theorem tw_alen (hexec : p.tables.exec = Jvm.exec) (hb : c.code = cc) {j n : Nat} {ty : FieldType} (hK : va_K D cl tys s) (hT : gH D kA Sg G H) (ha : G a = some t) (hs : Sg t = .inr (j, n, E)) (ht : tys[j]? = some (kA j, ty)) {v : Int32} (hv : Int32.ofNat n = v) (hdg : decode cc pc = .ok (.arraylength, 1))
    (kk : W p l e R s m args below meth c H locs cells slots Q (F0 m (pc + 1) ls (.int v :: rest))) : W p l e R s m args below meth c H locs cells slots Q (F0 m pc ls (.ref a :: rest)) := by
  subst hv
  have h := hT a t ha
  rw [hs] at h
  obtain ⟨V, q1, hE⟩ := h
  exact W.alen (n := Int32.ofNat n) hexec hb q1 ((hK.2 j _ ht).1 n V) (by rw [arrV_size] <;> rfl) rfl rfl hdg kk
end TWL
theorem gi_of {lo hi : Int} {G : gT} {x : Int32} {a : Int} (hx : x.toInt = a) (h1 : lo ≤ a) (h2 : a ≤ hi) : gI lo hi G (.int x) := ⟨x, rfl, by rw [hx]; exact h1, by rw [hx]; exact h2⟩
theorem gl_at {ks : List (gT → Value → Prop)} {G : gT} {i : Nat} {v : Value} {k : gT → Value → Prop} (h : ks[i]? = some k) (hv : k G v) : gl ks G i v := by
  intro k' h'
  rw [h] at h'
  cases h'
  exact hv
theorem gi_z {lo hi : Int} {G : gT} {x : Int32} (h : 0 ≤ x.toInt ∧ x.toInt ≤ 1) (h1 : lo ≤ 0) (h2 : 1 ≤ hi) : gI lo hi G (narrow .boolean (.int x)) := by
  rw [nar_b h]
  exact ⟨x, rfl, by omega, by omega⟩
theorem gi_b {lo hi : Int} {G : gT} (x : Int32) (h1 : lo ≤ -2147483648) (h2 : 2147483647 ≤ hi) : gI lo hi G (narrow .byte (.int x)) := by
  have e : narrow .byte (.int x) = .int (vp_nar .byte x) := rfl
  rw [e]
  exact ⟨_, rfl, Int.le_trans h1 (Int32.le_toInt _), Int.le_trans (by have := Int32.toInt_lt (vp_nar .byte x); omega) h2⟩
theorem gi_all {G : gT} (x : Int32) : gI (-2147483648) 2147483647 G (.int x) := ⟨x, rfl, (ti_all x).1, (ti_all x).2⟩
theorem el_same {H : Heap} {a : Nat} {i j x y : Int32} (h1 : el H a i.toNatClampNeg = some (.int x)) (h2 : el H a j.toNatClampNeg = some (.int y)) (h : i.toInt = j.toInt) : x = y := by
  have e : i = j := Int32.toInt_inj.mp h
  subst e
  rw [h1] at h2
  cases h2
  rfl
theorem el_val {H : Heap} {a i : Nat} {x y : Int32} (h1 : el H a i = some (.int x)) (h2 : el H a i = some (.int y)) : x = y := by
  rw [h1] at h2
  cases h2
  rfl
theorem tn_ne {i j : Int32} {a b : Int} (hi : i.toInt = a) (hj : j.toInt = b) (h0 : 0 ≤ a) (h1 : 0 ≤ b) (h : a ≠ b) : i.toNatClampNeg ≠ j.toNatClampNeg := by
  intro e
  have e1 : (i.toNatClampNeg : Int) = a := by rw [← hi]; exact Int.toNat_of_nonneg (by rw [hi]; exact h0)
  have e2 : (j.toNatClampNeg : Int) = b := by rw [← hj]; exact Int.toNat_of_nonneg (by rw [hj]; exact h1)
  rw [e] at e1
  exact h (e1.symm.trans e2)
theorem ti_mulnn {x y z : Int32} {a b A B : Int} (e : z = x * y) (hx : x.toInt = a) (hy : y.toInt = b) (h0 : 0 ≤ a) (h1 : a ≤ A) (h2 : 0 ≤ b) (h3 : b ≤ B) (h4 : A * B ≤ 2147483647) : 0 ≤ z.toInt ∧ z.toInt ≤ A * B ∧ (a = 0 → z.toInt = 0) ∧ (b = 0 → z.toInt = 0) ∧ z.toInt ≤ a * B ∧ z.toInt ≤ A * b := by
  have hp : 0 ≤ a * b := Int.mul_nonneg h0 h2
  have hq : a * b ≤ A * B := Int.mul_le_mul h1 h3 h2 (Int.le_trans h0 h1)
  have hz := ti_mul e hx hy (by omega) (by omega)
  exact ⟨by omega, by omega, fun q => by rw [hz, q, Int.zero_mul], fun q => by rw [hz, q, Int.mul_zero], by rw [hz]; exact Int.mul_le_mul_of_nonneg_left h3 h0, by rw [hz]; exact Int.mul_le_mul_of_nonneg_right h1 h2⟩
theorem ti_mulsn {x y z : Int32} {a b A B : Int} (e : z = x * y) (hx : x.toInt = a) (hy : y.toInt = b) (h0 : -A ≤ a) (h1 : a ≤ A) (h2 : 0 ≤ b) (h3 : b ≤ B) (h4 : A * B ≤ 2147483647) : -(A * B) ≤ z.toInt ∧ z.toInt ≤ A * B ∧ (a ≤ 0 → z.toInt ≤ 0) ∧ (0 ≤ a → 0 ≤ z.toInt) ∧ (0 ≤ a → z.toInt ≤ a * B) ∧ (a ≤ 0 → a * B ≤ z.toInt) := by
  have hA : 0 ≤ A := by omega
  have hq : a * b ≤ A * B := by
    rcases Int.le_total 0 a with h | h
    · exact Int.mul_le_mul h1 h3 h2 hA
    · have h5 : a * b ≤ 0 := Int.mul_nonpos_of_nonpos_of_nonneg h h2
      have h6 : 0 ≤ A * B := Int.mul_nonneg hA (Int.le_trans h2 h3)
      omega
  have hr : -(A * B) ≤ a * b := by
    have h7 : (-a) * b ≤ A * B := by
      rcases Int.le_total 0 (-a) with h | h
      · exact Int.mul_le_mul (by omega) h3 h2 hA
      · have h5 : (-a) * b ≤ 0 := Int.mul_nonpos_of_nonpos_of_nonneg h h2
        have h6 : 0 ≤ A * B := Int.mul_nonneg hA (Int.le_trans h2 h3)
        omega
    rw [Int.neg_mul] at h7
    omega
  have hz := ti_mul e hx hy (by omega) (by omega)
  exact ⟨by omega, by omega, fun q => by rw [hz]; exact Int.mul_nonpos_of_nonpos_of_nonneg q h2, fun q => by rw [hz]; exact Int.mul_nonneg q h2, fun q => by rw [hz]; exact Int.mul_le_mul_of_nonneg_left h3 q, fun q => by rw [hz]; exact Int.mul_le_mul_of_nonpos_left q h3⟩
theorem ti_divs {x y z : Int32} {a d : Int} (e : z = x / y) (hx : x.toInt = a) (hy : y.toInt = d) (hd : 1 < d) : (0 ≤ a ∧ z.toInt = a / d) ∨ (a < 0 ∧ z.toInt = -((-a) / d)) := by
  have h1 := ti_all x
  rw [hx] at h1
  subst e
  rcases Int.lt_or_le a 0 with h | h
  · refine Or.inr ⟨h, ?_⟩
    have hle : (-a) / d < -a := Int.ediv_lt_self_of_pos_of_ne_one (by omega) (by omega)
    have hge : 0 ≤ (-a) / d := Int.ediv_nonneg (by omega) (by omega)
    have ht : a.tdiv d = -((-a) / d) := by
      have : a = -(-a) := by omega
      rw [this, Int.neg_tdiv, Int.tdiv_eq_ediv_of_nonneg (by omega)]
      simp
    rw [Int32.toInt_div, hx, hy, ht]
    exact Int.bmod_eq_of_le (by omega) (by omega)
  · exact Or.inl ⟨h, ti_div rfl hx hy h (by omega)⟩
theorem i2l_ne {x : Int32} {a : Int} (hx : x.toInt = a) (h : a ≠ 0) : x.toInt64 ≠ 0 := by
  intro e
  have := congrArg Int64.toInt e
  rw [Int32.toInt_toInt64, hx] at this
  exact h this
theorem gH_fld {D : va_G} {kA : Nat → ClassId} {Sg : Nat → gS} {G : gT} {H : Heap} {a t ci N k : Nat} {E : gE} (hT : gH D kA Sg G H) (ha : G a = some t) (hs : Sg t = .inl (ci, N, E)) (hk : k < N) : ∃ v, el H a (D.2 ci k) = some v ∧ E G k v := by
  have h := hT a t ha
  rw [hs] at h
  obtain ⟨V, ⟨cell, q1, q2, q3, q4⟩, hE⟩ := h
  exact ⟨V k, by unfold el; rw [q1]; exact q4 k hk, hE k hk⟩
theorem gH_el {D : va_G} {kA : Nat → ClassId} {Sg : Nat → gS} {G : gT} {H : Heap} {a t j n i : Nat} {E : gE} (hT : gH D kA Sg G H) (ha : G a = some t) (hs : Sg t = .inr (j, n, E)) (hi : i < n) : ∃ v, el H a i = some v ∧ E G i v := by
  have h := hT a t ha
  rw [hs] at h
  obtain ⟨V, q1, hE⟩ := h
  exact ⟨V i, by unfold el; rw [q1]; exact arrV_read _ _ hi, hE i hi⟩
theorem tn_same {i j : Int32} {a b : Int} (hi : i.toInt = a) (hj : j.toInt = b) (h : a = b) : i.toNatClampNeg = j.toNatClampNeg := by
  rw [Int32.toInt_inj.mp (hi.trans (h.trans hj.symm))]
def sLl : List Nat := [5, 4, 3, 4, 4, 6, 3, 5, 4, 4, 3, 3, 2, 2, 4, 5, 4, 4, 4, 3, 5, 4, 3, 2, 2, 2, 3, 3, 2, 5, 4, 3, 4, 4, 6, 3, 5, 4, 4, 4, 5, 4, 4, 4, 3, 5, 4, 3]
def sLn (i : Nat) : Nat := sLl.getD i 1
theorem sLn_b {i : Nat} (h : i < 48) : 2 ≤ sLn i ∧ sLn i ≤ 6 := by
  revert i
  decide
def strW : List (String × Nat × String × Nat) := [(RX12, 369, "acres", 0), (RX12, 371, "gain", 1), (RX12, 372, "age", 2), (RX12, 373, "sons", 3), (RX12, 374, "coin", 4), (RX12, 375, "cattle", 5), (RX12, 376, "kin", 6), (RX12, 378, "board", 7), (RX12, 380, "near", 8), (RX12, 382, "owes", 9), (RX12, 407, "not", 10), (RX12, 418, "and", 11), (RX12, 423, "or", 12), (RX12, 425, "in", 13), (RX12, 426, "dues", 14), (RX12, 428, "votes", 15), (RX12, 430, "fine", 16), (RX12, 432, "mark", 17), (RX12, 434, "call", 18), (RX12, 436, "out", 19), (RX12, 438, "level", 20), (RX12, 439, "pass", 21), (RX12, 441, "bar", 22), (RX12, 449, "if", 23), (RX4, 103, "if", 24), (RX4, 109, "in", 25), (RX4, 111, "not", 26), (RX4, 113, "and", 27), (RX4, 115, "or", 28), (RX4, 117, "acres", 29), (RX4, 119, "gain", 30), (RX4, 121, "age", 31), (RX4, 123, "sons", 32), (RX4, 125, "coin", 33), (RX4, 127, "cattle", 34), (RX4, 129, "kin", 35), (RX4, 131, "board", 36), (RX4, 133, "near", 37), (RX4, 135, "owes", 38), (RX4, 137, "dues", 39), (RX4, 139, "votes", 40), (RX4, 141, "fine", 41), (RX4, 143, "mark", 42), (RX4, 145, "call", 43), (RX4, 147, "out", 44), (RX4, 149, "level", 45), (RX4, 151, "pass", 46), (RX4, 153, "bar", 47)]
def SV (adK adV : Nat → Nat) (A : Nat → Prop) (U : State) (H : Heap) : Prop := (∀ i, i < 48 → va_O "java/lang/String" (adK i) A U H ∧ va_OF "java/lang/String" "coder" "B" (.int 0) (adK i) A U H ∧ va_OF "java/lang/String" "value" "[B" (.ref (adV i)) (adK i) A U H ∧ ∃ f : Nat → Int32, va_T .byte (adV i) (sLn i) (fun j => .int (f j)) A U H) ∧ (∀ w ∈ strW, vk_R w.1 w.2.1 w.2.2.1 (adK w.2.2.2) U) ∧ va_Z "java/lang/String" "COMPACT_STRINGS" "Z" (.int 1) A U H ∧ va_Zq "jdk/internal/util/Preconditions" "SIOOBE_FORMATTER" "Ljava/util/function/BiFunction;" A U H
def EVS (adK adV : Nat → Nat) (A : Nat → Prop) (U : State) (H : Heap) : Prop := EV A U H ∧ SV adK adV A U H
theorem EVS.blind {adK adV : Nat → Nat} {A : Nat → Prop} {U : State} (g : JFrame) (mk : MethodId) (a : Array Value) (h : EVS adK adV A U U.heap) : EVS adK adV A (U.calling g mk a) (U.calling g mk a).heap := by
  obtain ⟨h1, h2, h3, h4, h5⟩ := h
  exact ⟨EV.blind g mk a h1, fun i hi => by
    obtain ⟨q1, q2, q3, f, q4⟩ := h2 i hi
    exact ⟨va_O.moved (u := U) (Vm.Alike.refl U.vm) q1, va_OF.moved (u := U) (Vm.Alike.refl U.vm) q2, va_OF.moved (u := U) (Vm.Alike.refl U.vm) q3, f, va_T.moved (u := U) (Vm.Alike.refl U.vm) q4⟩, fun w hw => vk_R.same (u := U) rfl (h3 w hw), va_Z.moved (u := U) (Vm.Alike.refl U.vm) h4, va_Zq.moved (u := U) (Vm.Alike.refl U.vm) h5⟩
theorem EVS.call {adK adV : Nat → Nat} {A A' : Nat → Prop} {s U : State} {H : Heap} {locs : List Loc} (h : EVS adK adV A s s.heap) (hS : va_S A s.heap H locs) (hA : ∀ q, A' q → A q) (hU : U.heap = H) (hW : s.WarmedH U.vm) : EVS adK adV A' U U.heap := by
  obtain ⟨h1, h2, h3, h4, h5⟩ := h
  refine ⟨EV.call h1 hS hA hU hW, fun i hi => ?_, fun w hw => vk_R.warm hW (h3 w hw), ?_, ?_⟩
  · obtain ⟨q1, q2, q3, f, q4⟩ := h2 i hi
    rw [hU]
    exact ⟨va_O.moved hW.alike (va_O.narrow (va_O.kept q1 hS.2.1) hA), va_OF.moved hW.alike (va_OF.narrow (va_OF.kept q2 hS.2.1) hA), va_OF.moved hW.alike (va_OF.narrow (va_OF.kept q3 hS.2.1) hA), f, va_T.moved hW.alike (va_T.narrow (va_T.kept q4 hS.2.1) hA)⟩
  · rw [hU]; exact va_Z.moved hW.alike (va_Z.narrow (va_Z.kept h4 hS.2.1) hA)
  · rw [hU]; exact va_Zq.moved hW.alike (va_Zq.narrow (va_Zq.kept h5 hS.2.1) hA)
theorem EVS.nm {adK adV : Nat → Nat} {A : Nat → Prop} {U : State} {H : Heap} (h : EVS adK adV A U H) (k : Nat) {w : Cond} (hw : nwT[k]? = some w) : va_Nw w U := EV.nm h.1 k hw
theorem EVS.site {adK adV : Nat → Nat} {A : Nat → Prop} {U : State} {H : Heap} (h : EVS adK adV A U H) (k : Nat) {w : String × Nat × String × Nat} (hw : strW[k]? = some w) : vk_R w.1 w.2.1 w.2.2.1 (adK w.2.2.2) U := h.2.2.1 w (List.mem_of_getElem? hw)
theorem EVS.recv {adK adV : Nat → Nat} {A : Nat → Prop} {s : State} {H : Heap} {locs : List Loc} {i : Nat} (h : EVS adK adV A s s.heap) (hi : i < 48) (hS : va_S A s.heap H locs) : ∃ cell : Cell, H[adK i]? = some cell ∧ cell.vm.isStatics = false ∧ s.vm.findClass "java/lang/String" = some cell.cls := by
  obtain ⟨cell, h1, h2, h3, -⟩ := (h.2.1 i hi).1.kept hS.2.1
  exact ⟨cell, h1, h2, h3⟩
theorem EVS.s0 {adK adV : Nat → Nat} {A : Nat → Prop} {U : State} {H : Heap} (h : EVS adK adV A U H) : vk_R RX12 369 "acres" (adK 0) U := h.2.2.1 (RX12, 369, "acres", 0) (.head _)
theorem EVS.s1 {adK adV : Nat → Nat} {A : Nat → Prop} {U : State} {H : Heap} (h : EVS adK adV A U H) : vk_R RX12 371 "gain" (adK 1) U := h.2.2.1 (RX12, 371, "gain", 1) (.tail _ (.head _))
theorem EVS.s2 {adK adV : Nat → Nat} {A : Nat → Prop} {U : State} {H : Heap} (h : EVS adK adV A U H) : vk_R RX12 372 "age" (adK 2) U := h.2.2.1 (RX12, 372, "age", 2) (.tail _ (.tail _ (.head _)))
theorem EVS.s3 {adK adV : Nat → Nat} {A : Nat → Prop} {U : State} {H : Heap} (h : EVS adK adV A U H) : vk_R RX12 373 "sons" (adK 3) U := h.2.2.1 (RX12, 373, "sons", 3) (.tail _ (.tail _ (.tail _ (.head _))))
theorem EVS.s4 {adK adV : Nat → Nat} {A : Nat → Prop} {U : State} {H : Heap} (h : EVS adK adV A U H) : vk_R RX12 374 "coin" (adK 4) U := h.2.2.1 (RX12, 374, "coin", 4) (.tail _ (.tail _ (.tail _ (.tail _ (.head _)))))
theorem EVS.s5 {adK adV : Nat → Nat} {A : Nat → Prop} {U : State} {H : Heap} (h : EVS adK adV A U H) : vk_R RX12 375 "cattle" (adK 5) U := h.2.2.1 (RX12, 375, "cattle", 5) (.tail _ (.tail _ (.tail _ (.tail _ (.tail _ (.head _))))))
theorem EVS.s6 {adK adV : Nat → Nat} {A : Nat → Prop} {U : State} {H : Heap} (h : EVS adK adV A U H) : vk_R RX12 376 "kin" (adK 6) U := h.2.2.1 (RX12, 376, "kin", 6) (.tail _ (.tail _ (.tail _ (.tail _ (.tail _ (.tail _ (.head _)))))))
theorem EVS.s7 {adK adV : Nat → Nat} {A : Nat → Prop} {U : State} {H : Heap} (h : EVS adK adV A U H) : vk_R RX12 378 "board" (adK 7) U := h.2.2.1 (RX12, 378, "board", 7) (.tail _ (.tail _ (.tail _ (.tail _ (.tail _ (.tail _ (.tail _ (.head _))))))))
theorem EVS.s8 {adK adV : Nat → Nat} {A : Nat → Prop} {U : State} {H : Heap} (h : EVS adK adV A U H) : vk_R RX12 380 "near" (adK 8) U := h.2.2.1 (RX12, 380, "near", 8) (.tail _ (.tail _ (.tail _ (.tail _ (.tail _ (.tail _ (.tail _ (.tail _ (.head _)))))))))
theorem EVS.s9 {adK adV : Nat → Nat} {A : Nat → Prop} {U : State} {H : Heap} (h : EVS adK adV A U H) : vk_R RX12 382 "owes" (adK 9) U := h.2.2.1 (RX12, 382, "owes", 9) (.tail _ (.tail _ (.tail _ (.tail _ (.tail _ (.tail _ (.tail _ (.tail _ (.tail _ (.head _))))))))))
theorem EVS.s10 {adK adV : Nat → Nat} {A : Nat → Prop} {U : State} {H : Heap} (h : EVS adK adV A U H) : vk_R RX12 407 "not" (adK 10) U := h.2.2.1 (RX12, 407, "not", 10) (.tail _ (.tail _ (.tail _ (.tail _ (.tail _ (.tail _ (.tail _ (.tail _ (.tail _ (.tail _ (.head _)))))))))))
theorem EVS.s11 {adK adV : Nat → Nat} {A : Nat → Prop} {U : State} {H : Heap} (h : EVS adK adV A U H) : vk_R RX12 418 "and" (adK 11) U := h.2.2.1 (RX12, 418, "and", 11) (.tail _ (.tail _ (.tail _ (.tail _ (.tail _ (.tail _ (.tail _ (.tail _ (.tail _ (.tail _ (.tail _ (.head _))))))))))))
theorem EVS.s12 {adK adV : Nat → Nat} {A : Nat → Prop} {U : State} {H : Heap} (h : EVS adK adV A U H) : vk_R RX12 423 "or" (adK 12) U := h.2.2.1 (RX12, 423, "or", 12) (.tail _ (.tail _ (.tail _ (.tail _ (.tail _ (.tail _ (.tail _ (.tail _ (.tail _ (.tail _ (.tail _ (.tail _ (.head _)))))))))))))
theorem EVS.s13 {adK adV : Nat → Nat} {A : Nat → Prop} {U : State} {H : Heap} (h : EVS adK adV A U H) : vk_R RX12 425 "in" (adK 13) U := h.2.2.1 (RX12, 425, "in", 13) (.tail _ (.tail _ (.tail _ (.tail _ (.tail _ (.tail _ (.tail _ (.tail _ (.tail _ (.tail _ (.tail _ (.tail _ (.tail _ (.head _))))))))))))))
theorem EVS.s14 {adK adV : Nat → Nat} {A : Nat → Prop} {U : State} {H : Heap} (h : EVS adK adV A U H) : vk_R RX12 426 "dues" (adK 14) U := h.2.2.1 (RX12, 426, "dues", 14) (.tail _ (.tail _ (.tail _ (.tail _ (.tail _ (.tail _ (.tail _ (.tail _ (.tail _ (.tail _ (.tail _ (.tail _ (.tail _ (.tail _ (.head _)))))))))))))))
theorem EVS.s15 {adK adV : Nat → Nat} {A : Nat → Prop} {U : State} {H : Heap} (h : EVS adK adV A U H) : vk_R RX12 428 "votes" (adK 15) U := h.2.2.1 (RX12, 428, "votes", 15) (.tail _ (.tail _ (.tail _ (.tail _ (.tail _ (.tail _ (.tail _ (.tail _ (.tail _ (.tail _ (.tail _ (.tail _ (.tail _ (.tail _ (.tail _ (.head _))))))))))))))))
theorem EVS.s16 {adK adV : Nat → Nat} {A : Nat → Prop} {U : State} {H : Heap} (h : EVS adK adV A U H) : vk_R RX12 430 "fine" (adK 16) U := h.2.2.1 (RX12, 430, "fine", 16) (.tail _ (.tail _ (.tail _ (.tail _ (.tail _ (.tail _ (.tail _ (.tail _ (.tail _ (.tail _ (.tail _ (.tail _ (.tail _ (.tail _ (.tail _ (.tail _ (.head _)))))))))))))))))
theorem EVS.s17 {adK adV : Nat → Nat} {A : Nat → Prop} {U : State} {H : Heap} (h : EVS adK adV A U H) : vk_R RX12 432 "mark" (adK 17) U := h.2.2.1 (RX12, 432, "mark", 17) (.tail _ (.tail _ (.tail _ (.tail _ (.tail _ (.tail _ (.tail _ (.tail _ (.tail _ (.tail _ (.tail _ (.tail _ (.tail _ (.tail _ (.tail _ (.tail _ (.tail _ (.head _))))))))))))))))))
theorem EVS.s18 {adK adV : Nat → Nat} {A : Nat → Prop} {U : State} {H : Heap} (h : EVS adK adV A U H) : vk_R RX12 434 "call" (adK 18) U := h.2.2.1 (RX12, 434, "call", 18) (.tail _ (.tail _ (.tail _ (.tail _ (.tail _ (.tail _ (.tail _ (.tail _ (.tail _ (.tail _ (.tail _ (.tail _ (.tail _ (.tail _ (.tail _ (.tail _ (.tail _ (.tail _ (.head _)))))))))))))))))))
theorem EVS.s19 {adK adV : Nat → Nat} {A : Nat → Prop} {U : State} {H : Heap} (h : EVS adK adV A U H) : vk_R RX12 436 "out" (adK 19) U := h.2.2.1 (RX12, 436, "out", 19) (.tail _ (.tail _ (.tail _ (.tail _ (.tail _ (.tail _ (.tail _ (.tail _ (.tail _ (.tail _ (.tail _ (.tail _ (.tail _ (.tail _ (.tail _ (.tail _ (.tail _ (.tail _ (.tail _ (.head _))))))))))))))))))))
theorem EVS.s20 {adK adV : Nat → Nat} {A : Nat → Prop} {U : State} {H : Heap} (h : EVS adK adV A U H) : vk_R RX12 438 "level" (adK 20) U := h.2.2.1 (RX12, 438, "level", 20) (.tail _ (.tail _ (.tail _ (.tail _ (.tail _ (.tail _ (.tail _ (.tail _ (.tail _ (.tail _ (.tail _ (.tail _ (.tail _ (.tail _ (.tail _ (.tail _ (.tail _ (.tail _ (.tail _ (.tail _ (.head _)))))))))))))))))))))
theorem EVS.s21 {adK adV : Nat → Nat} {A : Nat → Prop} {U : State} {H : Heap} (h : EVS adK adV A U H) : vk_R RX12 439 "pass" (adK 21) U := h.2.2.1 (RX12, 439, "pass", 21) (.tail _ (.tail _ (.tail _ (.tail _ (.tail _ (.tail _ (.tail _ (.tail _ (.tail _ (.tail _ (.tail _ (.tail _ (.tail _ (.tail _ (.tail _ (.tail _ (.tail _ (.tail _ (.tail _ (.tail _ (.tail _ (.head _))))))))))))))))))))))
theorem EVS.s22 {adK adV : Nat → Nat} {A : Nat → Prop} {U : State} {H : Heap} (h : EVS adK adV A U H) : vk_R RX12 441 "bar" (adK 22) U := h.2.2.1 (RX12, 441, "bar", 22) (.tail _ (.tail _ (.tail _ (.tail _ (.tail _ (.tail _ (.tail _ (.tail _ (.tail _ (.tail _ (.tail _ (.tail _ (.tail _ (.tail _ (.tail _ (.tail _ (.tail _ (.tail _ (.tail _ (.tail _ (.tail _ (.tail _ (.head _)))))))))))))))))))))))
theorem EVS.s23 {adK adV : Nat → Nat} {A : Nat → Prop} {U : State} {H : Heap} (h : EVS adK adV A U H) : vk_R RX12 449 "if" (adK 23) U := h.2.2.1 (RX12, 449, "if", 23) (.tail _ (.tail _ (.tail _ (.tail _ (.tail _ (.tail _ (.tail _ (.tail _ (.tail _ (.tail _ (.tail _ (.tail _ (.tail _ (.tail _ (.tail _ (.tail _ (.tail _ (.tail _ (.tail _ (.tail _ (.tail _ (.tail _ (.tail _ (.head _))))))))))))))))))))))))
theorem EVS.s24 {adK adV : Nat → Nat} {A : Nat → Prop} {U : State} {H : Heap} (h : EVS adK adV A U H) : vk_R RX4 103 "if" (adK 24) U := h.2.2.1 (RX4, 103, "if", 24) (.tail _ (.tail _ (.tail _ (.tail _ (.tail _ (.tail _ (.tail _ (.tail _ (.tail _ (.tail _ (.tail _ (.tail _ (.tail _ (.tail _ (.tail _ (.tail _ (.tail _ (.tail _ (.tail _ (.tail _ (.tail _ (.tail _ (.tail _ (.tail _ (.head _)))))))))))))))))))))))))
theorem EVS.s25 {adK adV : Nat → Nat} {A : Nat → Prop} {U : State} {H : Heap} (h : EVS adK adV A U H) : vk_R RX4 109 "in" (adK 25) U := h.2.2.1 (RX4, 109, "in", 25) (.tail _ (.tail _ (.tail _ (.tail _ (.tail _ (.tail _ (.tail _ (.tail _ (.tail _ (.tail _ (.tail _ (.tail _ (.tail _ (.tail _ (.tail _ (.tail _ (.tail _ (.tail _ (.tail _ (.tail _ (.tail _ (.tail _ (.tail _ (.tail _ (.tail _ (.head _))))))))))))))))))))))))))
theorem EVS.s26 {adK adV : Nat → Nat} {A : Nat → Prop} {U : State} {H : Heap} (h : EVS adK adV A U H) : vk_R RX4 111 "not" (adK 26) U := h.2.2.1 (RX4, 111, "not", 26) (.tail _ (.tail _ (.tail _ (.tail _ (.tail _ (.tail _ (.tail _ (.tail _ (.tail _ (.tail _ (.tail _ (.tail _ (.tail _ (.tail _ (.tail _ (.tail _ (.tail _ (.tail _ (.tail _ (.tail _ (.tail _ (.tail _ (.tail _ (.tail _ (.tail _ (.tail _ (.head _)))))))))))))))))))))))))))
theorem EVS.s27 {adK adV : Nat → Nat} {A : Nat → Prop} {U : State} {H : Heap} (h : EVS adK adV A U H) : vk_R RX4 113 "and" (adK 27) U := h.2.2.1 (RX4, 113, "and", 27) (.tail _ (.tail _ (.tail _ (.tail _ (.tail _ (.tail _ (.tail _ (.tail _ (.tail _ (.tail _ (.tail _ (.tail _ (.tail _ (.tail _ (.tail _ (.tail _ (.tail _ (.tail _ (.tail _ (.tail _ (.tail _ (.tail _ (.tail _ (.tail _ (.tail _ (.tail _ (.tail _ (.head _))))))))))))))))))))))))))))
theorem EVS.s28 {adK adV : Nat → Nat} {A : Nat → Prop} {U : State} {H : Heap} (h : EVS adK adV A U H) : vk_R RX4 115 "or" (adK 28) U := h.2.2.1 (RX4, 115, "or", 28) (.tail _ (.tail _ (.tail _ (.tail _ (.tail _ (.tail _ (.tail _ (.tail _ (.tail _ (.tail _ (.tail _ (.tail _ (.tail _ (.tail _ (.tail _ (.tail _ (.tail _ (.tail _ (.tail _ (.tail _ (.tail _ (.tail _ (.tail _ (.tail _ (.tail _ (.tail _ (.tail _ (.tail _ (.head _)))))))))))))))))))))))))))))
theorem EVS.s29 {adK adV : Nat → Nat} {A : Nat → Prop} {U : State} {H : Heap} (h : EVS adK adV A U H) : vk_R RX4 117 "acres" (adK 29) U := h.2.2.1 (RX4, 117, "acres", 29) (.tail _ (.tail _ (.tail _ (.tail _ (.tail _ (.tail _ (.tail _ (.tail _ (.tail _ (.tail _ (.tail _ (.tail _ (.tail _ (.tail _ (.tail _ (.tail _ (.tail _ (.tail _ (.tail _ (.tail _ (.tail _ (.tail _ (.tail _ (.tail _ (.tail _ (.tail _ (.tail _ (.tail _ (.tail _ (.head _))))))))))))))))))))))))))))))
theorem EVS.s30 {adK adV : Nat → Nat} {A : Nat → Prop} {U : State} {H : Heap} (h : EVS adK adV A U H) : vk_R RX4 119 "gain" (adK 30) U := h.2.2.1 (RX4, 119, "gain", 30) (.tail _ (.tail _ (.tail _ (.tail _ (.tail _ (.tail _ (.tail _ (.tail _ (.tail _ (.tail _ (.tail _ (.tail _ (.tail _ (.tail _ (.tail _ (.tail _ (.tail _ (.tail _ (.tail _ (.tail _ (.tail _ (.tail _ (.tail _ (.tail _ (.tail _ (.tail _ (.tail _ (.tail _ (.tail _ (.tail _ (.head _)))))))))))))))))))))))))))))))
theorem EVS.s31 {adK adV : Nat → Nat} {A : Nat → Prop} {U : State} {H : Heap} (h : EVS adK adV A U H) : vk_R RX4 121 "age" (adK 31) U := h.2.2.1 (RX4, 121, "age", 31) (.tail _ (.tail _ (.tail _ (.tail _ (.tail _ (.tail _ (.tail _ (.tail _ (.tail _ (.tail _ (.tail _ (.tail _ (.tail _ (.tail _ (.tail _ (.tail _ (.tail _ (.tail _ (.tail _ (.tail _ (.tail _ (.tail _ (.tail _ (.tail _ (.tail _ (.tail _ (.tail _ (.tail _ (.tail _ (.tail _ (.tail _ (.head _))))))))))))))))))))))))))))))))
theorem EVS.s32 {adK adV : Nat → Nat} {A : Nat → Prop} {U : State} {H : Heap} (h : EVS adK adV A U H) : vk_R RX4 123 "sons" (adK 32) U := h.2.2.1 (RX4, 123, "sons", 32) (.tail _ (.tail _ (.tail _ (.tail _ (.tail _ (.tail _ (.tail _ (.tail _ (.tail _ (.tail _ (.tail _ (.tail _ (.tail _ (.tail _ (.tail _ (.tail _ (.tail _ (.tail _ (.tail _ (.tail _ (.tail _ (.tail _ (.tail _ (.tail _ (.tail _ (.tail _ (.tail _ (.tail _ (.tail _ (.tail _ (.tail _ (.tail _ (.head _)))))))))))))))))))))))))))))))))
theorem EVS.s33 {adK adV : Nat → Nat} {A : Nat → Prop} {U : State} {H : Heap} (h : EVS adK adV A U H) : vk_R RX4 125 "coin" (adK 33) U := h.2.2.1 (RX4, 125, "coin", 33) (.tail _ (.tail _ (.tail _ (.tail _ (.tail _ (.tail _ (.tail _ (.tail _ (.tail _ (.tail _ (.tail _ (.tail _ (.tail _ (.tail _ (.tail _ (.tail _ (.tail _ (.tail _ (.tail _ (.tail _ (.tail _ (.tail _ (.tail _ (.tail _ (.tail _ (.tail _ (.tail _ (.tail _ (.tail _ (.tail _ (.tail _ (.tail _ (.tail _ (.head _))))))))))))))))))))))))))))))))))
theorem EVS.s34 {adK adV : Nat → Nat} {A : Nat → Prop} {U : State} {H : Heap} (h : EVS adK adV A U H) : vk_R RX4 127 "cattle" (adK 34) U := h.2.2.1 (RX4, 127, "cattle", 34) (.tail _ (.tail _ (.tail _ (.tail _ (.tail _ (.tail _ (.tail _ (.tail _ (.tail _ (.tail _ (.tail _ (.tail _ (.tail _ (.tail _ (.tail _ (.tail _ (.tail _ (.tail _ (.tail _ (.tail _ (.tail _ (.tail _ (.tail _ (.tail _ (.tail _ (.tail _ (.tail _ (.tail _ (.tail _ (.tail _ (.tail _ (.tail _ (.tail _ (.tail _ (.head _)))))))))))))))))))))))))))))))))))
theorem EVS.s35 {adK adV : Nat → Nat} {A : Nat → Prop} {U : State} {H : Heap} (h : EVS adK adV A U H) : vk_R RX4 129 "kin" (adK 35) U := h.2.2.1 (RX4, 129, "kin", 35) (.tail _ (.tail _ (.tail _ (.tail _ (.tail _ (.tail _ (.tail _ (.tail _ (.tail _ (.tail _ (.tail _ (.tail _ (.tail _ (.tail _ (.tail _ (.tail _ (.tail _ (.tail _ (.tail _ (.tail _ (.tail _ (.tail _ (.tail _ (.tail _ (.tail _ (.tail _ (.tail _ (.tail _ (.tail _ (.tail _ (.tail _ (.tail _ (.tail _ (.tail _ (.tail _ (.head _))))))))))))))))))))))))))))))))))))
theorem EVS.s36 {adK adV : Nat → Nat} {A : Nat → Prop} {U : State} {H : Heap} (h : EVS adK adV A U H) : vk_R RX4 131 "board" (adK 36) U := h.2.2.1 (RX4, 131, "board", 36) (.tail _ (.tail _ (.tail _ (.tail _ (.tail _ (.tail _ (.tail _ (.tail _ (.tail _ (.tail _ (.tail _ (.tail _ (.tail _ (.tail _ (.tail _ (.tail _ (.tail _ (.tail _ (.tail _ (.tail _ (.tail _ (.tail _ (.tail _ (.tail _ (.tail _ (.tail _ (.tail _ (.tail _ (.tail _ (.tail _ (.tail _ (.tail _ (.tail _ (.tail _ (.tail _ (.tail _ (.head _)))))))))))))))))))))))))))))))))))))
theorem EVS.s37 {adK adV : Nat → Nat} {A : Nat → Prop} {U : State} {H : Heap} (h : EVS adK adV A U H) : vk_R RX4 133 "near" (adK 37) U := h.2.2.1 (RX4, 133, "near", 37) (.tail _ (.tail _ (.tail _ (.tail _ (.tail _ (.tail _ (.tail _ (.tail _ (.tail _ (.tail _ (.tail _ (.tail _ (.tail _ (.tail _ (.tail _ (.tail _ (.tail _ (.tail _ (.tail _ (.tail _ (.tail _ (.tail _ (.tail _ (.tail _ (.tail _ (.tail _ (.tail _ (.tail _ (.tail _ (.tail _ (.tail _ (.tail _ (.tail _ (.tail _ (.tail _ (.tail _ (.tail _ (.head _))))))))))))))))))))))))))))))))))))))
theorem EVS.s38 {adK adV : Nat → Nat} {A : Nat → Prop} {U : State} {H : Heap} (h : EVS adK adV A U H) : vk_R RX4 135 "owes" (adK 38) U := h.2.2.1 (RX4, 135, "owes", 38) (.tail _ (.tail _ (.tail _ (.tail _ (.tail _ (.tail _ (.tail _ (.tail _ (.tail _ (.tail _ (.tail _ (.tail _ (.tail _ (.tail _ (.tail _ (.tail _ (.tail _ (.tail _ (.tail _ (.tail _ (.tail _ (.tail _ (.tail _ (.tail _ (.tail _ (.tail _ (.tail _ (.tail _ (.tail _ (.tail _ (.tail _ (.tail _ (.tail _ (.tail _ (.tail _ (.tail _ (.tail _ (.tail _ (.head _)))))))))))))))))))))))))))))))))))))))
theorem EVS.s39 {adK adV : Nat → Nat} {A : Nat → Prop} {U : State} {H : Heap} (h : EVS adK adV A U H) : vk_R RX4 137 "dues" (adK 39) U := h.2.2.1 (RX4, 137, "dues", 39) (.tail _ (.tail _ (.tail _ (.tail _ (.tail _ (.tail _ (.tail _ (.tail _ (.tail _ (.tail _ (.tail _ (.tail _ (.tail _ (.tail _ (.tail _ (.tail _ (.tail _ (.tail _ (.tail _ (.tail _ (.tail _ (.tail _ (.tail _ (.tail _ (.tail _ (.tail _ (.tail _ (.tail _ (.tail _ (.tail _ (.tail _ (.tail _ (.tail _ (.tail _ (.tail _ (.tail _ (.tail _ (.tail _ (.tail _ (.head _))))))))))))))))))))))))))))))))))))))))
theorem EVS.s40 {adK adV : Nat → Nat} {A : Nat → Prop} {U : State} {H : Heap} (h : EVS adK adV A U H) : vk_R RX4 139 "votes" (adK 40) U := h.2.2.1 (RX4, 139, "votes", 40) (.tail _ (.tail _ (.tail _ (.tail _ (.tail _ (.tail _ (.tail _ (.tail _ (.tail _ (.tail _ (.tail _ (.tail _ (.tail _ (.tail _ (.tail _ (.tail _ (.tail _ (.tail _ (.tail _ (.tail _ (.tail _ (.tail _ (.tail _ (.tail _ (.tail _ (.tail _ (.tail _ (.tail _ (.tail _ (.tail _ (.tail _ (.tail _ (.tail _ (.tail _ (.tail _ (.tail _ (.tail _ (.tail _ (.tail _ (.tail _ (.head _)))))))))))))))))))))))))))))))))))))))))
theorem EVS.s41 {adK adV : Nat → Nat} {A : Nat → Prop} {U : State} {H : Heap} (h : EVS adK adV A U H) : vk_R RX4 141 "fine" (adK 41) U := h.2.2.1 (RX4, 141, "fine", 41) (.tail _ (.tail _ (.tail _ (.tail _ (.tail _ (.tail _ (.tail _ (.tail _ (.tail _ (.tail _ (.tail _ (.tail _ (.tail _ (.tail _ (.tail _ (.tail _ (.tail _ (.tail _ (.tail _ (.tail _ (.tail _ (.tail _ (.tail _ (.tail _ (.tail _ (.tail _ (.tail _ (.tail _ (.tail _ (.tail _ (.tail _ (.tail _ (.tail _ (.tail _ (.tail _ (.tail _ (.tail _ (.tail _ (.tail _ (.tail _ (.tail _ (.head _))))))))))))))))))))))))))))))))))))))))))
theorem EVS.s42 {adK adV : Nat → Nat} {A : Nat → Prop} {U : State} {H : Heap} (h : EVS adK adV A U H) : vk_R RX4 143 "mark" (adK 42) U := h.2.2.1 (RX4, 143, "mark", 42) (.tail _ (.tail _ (.tail _ (.tail _ (.tail _ (.tail _ (.tail _ (.tail _ (.tail _ (.tail _ (.tail _ (.tail _ (.tail _ (.tail _ (.tail _ (.tail _ (.tail _ (.tail _ (.tail _ (.tail _ (.tail _ (.tail _ (.tail _ (.tail _ (.tail _ (.tail _ (.tail _ (.tail _ (.tail _ (.tail _ (.tail _ (.tail _ (.tail _ (.tail _ (.tail _ (.tail _ (.tail _ (.tail _ (.tail _ (.tail _ (.tail _ (.tail _ (.head _)))))))))))))))))))))))))))))))))))))))))))
theorem EVS.s43 {adK adV : Nat → Nat} {A : Nat → Prop} {U : State} {H : Heap} (h : EVS adK adV A U H) : vk_R RX4 145 "call" (adK 43) U := h.2.2.1 (RX4, 145, "call", 43) (.tail _ (.tail _ (.tail _ (.tail _ (.tail _ (.tail _ (.tail _ (.tail _ (.tail _ (.tail _ (.tail _ (.tail _ (.tail _ (.tail _ (.tail _ (.tail _ (.tail _ (.tail _ (.tail _ (.tail _ (.tail _ (.tail _ (.tail _ (.tail _ (.tail _ (.tail _ (.tail _ (.tail _ (.tail _ (.tail _ (.tail _ (.tail _ (.tail _ (.tail _ (.tail _ (.tail _ (.tail _ (.tail _ (.tail _ (.tail _ (.tail _ (.tail _ (.tail _ (.head _))))))))))))))))))))))))))))))))))))))))))))
theorem EVS.s44 {adK adV : Nat → Nat} {A : Nat → Prop} {U : State} {H : Heap} (h : EVS adK adV A U H) : vk_R RX4 147 "out" (adK 44) U := h.2.2.1 (RX4, 147, "out", 44) (.tail _ (.tail _ (.tail _ (.tail _ (.tail _ (.tail _ (.tail _ (.tail _ (.tail _ (.tail _ (.tail _ (.tail _ (.tail _ (.tail _ (.tail _ (.tail _ (.tail _ (.tail _ (.tail _ (.tail _ (.tail _ (.tail _ (.tail _ (.tail _ (.tail _ (.tail _ (.tail _ (.tail _ (.tail _ (.tail _ (.tail _ (.tail _ (.tail _ (.tail _ (.tail _ (.tail _ (.tail _ (.tail _ (.tail _ (.tail _ (.tail _ (.tail _ (.tail _ (.tail _ (.head _)))))))))))))))))))))))))))))))))))))))))))))
theorem EVS.s45 {adK adV : Nat → Nat} {A : Nat → Prop} {U : State} {H : Heap} (h : EVS adK adV A U H) : vk_R RX4 149 "level" (adK 45) U := h.2.2.1 (RX4, 149, "level", 45) (.tail _ (.tail _ (.tail _ (.tail _ (.tail _ (.tail _ (.tail _ (.tail _ (.tail _ (.tail _ (.tail _ (.tail _ (.tail _ (.tail _ (.tail _ (.tail _ (.tail _ (.tail _ (.tail _ (.tail _ (.tail _ (.tail _ (.tail _ (.tail _ (.tail _ (.tail _ (.tail _ (.tail _ (.tail _ (.tail _ (.tail _ (.tail _ (.tail _ (.tail _ (.tail _ (.tail _ (.tail _ (.tail _ (.tail _ (.tail _ (.tail _ (.tail _ (.tail _ (.tail _ (.tail _ (.head _))))))))))))))))))))))))))))))))))))))))))))))
theorem EVS.s46 {adK adV : Nat → Nat} {A : Nat → Prop} {U : State} {H : Heap} (h : EVS adK adV A U H) : vk_R RX4 151 "pass" (adK 46) U := h.2.2.1 (RX4, 151, "pass", 46) (.tail _ (.tail _ (.tail _ (.tail _ (.tail _ (.tail _ (.tail _ (.tail _ (.tail _ (.tail _ (.tail _ (.tail _ (.tail _ (.tail _ (.tail _ (.tail _ (.tail _ (.tail _ (.tail _ (.tail _ (.tail _ (.tail _ (.tail _ (.tail _ (.tail _ (.tail _ (.tail _ (.tail _ (.tail _ (.tail _ (.tail _ (.tail _ (.tail _ (.tail _ (.tail _ (.tail _ (.tail _ (.tail _ (.tail _ (.tail _ (.tail _ (.tail _ (.tail _ (.tail _ (.tail _ (.tail _ (.head _)))))))))))))))))))))))))))))))))))))))))))))))
theorem EVS.s47 {adK adV : Nat → Nat} {A : Nat → Prop} {U : State} {H : Heap} (h : EVS adK adV A U H) : vk_R RX4 153 "bar" (adK 47) U := h.2.2.1 (RX4, 153, "bar", 47) (.tail _ (.tail _ (.tail _ (.tail _ (.tail _ (.tail _ (.tail _ (.tail _ (.tail _ (.tail _ (.tail _ (.tail _ (.tail _ (.tail _ (.tail _ (.tail _ (.tail _ (.tail _ (.tail _ (.tail _ (.tail _ (.tail _ (.tail _ (.tail _ (.tail _ (.tail _ (.tail _ (.tail _ (.tail _ (.tail _ (.tail _ (.tail _ (.tail _ (.tail _ (.tail _ (.tail _ (.tail _ (.tail _ (.tail _ (.tail _ (.tail _ (.tail _ (.tail _ (.tail _ (.tail _ (.tail _ (.tail _ (.head _))))))))))))))))))))))))))))))))))))))))))))))))
section TLW
variable {p : Program} {l : Launch} {e : Env} {R : Room} {s : State} {m : MethodId} {args : Array Value} {below : List Frame} {meth : Method} {c : Code} {H : Heap} {locs : List Loc} {cells slots : Nat} {Q : State → Prop}
variable {cc : ByteArray} {pc : Nat} {ls : Array Slot} {rest : List Value}
theorem tw_ldcwS (hexec : p.tables.exec = Jvm.exec) (hb : c.code = cc) {own tx : String} {index q : Nat} (hown : s.vm.findClass own = some m.cls) (hZ : vk_R own index tx q s) (hdg : decode cc pc = .ok (.ldc_w index, 3))
    (k : W p l e R s m args below meth c H locs cells slots Q (F0 m (pc + 3) ls (.ref q :: rest))) : W p l e R s m args below meth c H locs cells slots Q (F0 m pc ls rest) := by
  intro T hT X
  obtain ⟨t, a1, b1⟩ := k T hT X
  refine ⟨t, ?_, b1⟩
  obtain ⟨k, cf, i, a', hk, hcf, hcp, -, hr, hev'⟩ := Cond.stringRef_spec hown hZ.1
  cases hZ.2.symm.trans hev'
  obtain ⟨k', hk', he⟩ := X.warmed.alike.2.2 _ _ hk
  have hr' : k'.resolved[index]? = some (some (.string q)) := by
    rcases X.warmed.entry hk hk' index with h | ⟨h, -⟩
    · rw [h]; exact hr
    · rw [hr] at h; cases h
  have hdg' : decode c.code (F0 m pc ls rest).pc = .ok (.ldc_w index, 3) := by rw [hb]; exact hdg
  jvm_step X.here [hexec, hdg', Op.ldc_w.wp_string (e := e) (s := T) (f := F0 m pc ls rest) X.here.top hk' (by rw [he]; exact hcf) hcp hr']
  exact a1
end TLW
theorem sLn_i {i : Nat} (h : i < 48) {x : Int32} (e : Int32.ofNat (sLn i) = x) : x.toInt = ((sLn i : Nat) : Int) := by
  have hb := sLn_b h
  subst e
  rw [Int32.toInt_ofNat_of_lt (by omega)]
theorem nar_c (x : Int32) : narrow .char (.int ((x.toUInt32 % 65536).toInt32)) = .int ((x.toUInt32 % 65536).toInt32) := by
  show Value.int _ = Value.int _
  congr 1
  rw [UInt32.toUInt32_toInt32]
  congr 1
  apply UInt32.toNat_inj.mp
  simp
theorem shr_0 (x : Int32) : x >>> (0 : Int32) = x := by
  apply Int32.toBitVec_inj.mp
  simp
