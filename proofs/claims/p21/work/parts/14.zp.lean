/-- what stands in an array of ints, place by place -/
def ct (H : Heap) (a n : Nat) (V : Nat → Int32) : Prop := ∀ i, i < n → el H a i = some (.int (V i))
def cu (V : Nat → Int32) (i : Nat) (x : Int32) : Nat → Int32 := fun k => if k = i then x else V k
theorem cu_s {V : Nat → Int32} {i k : Nat} {x : Int32} (h : k = i) : cu V i x k = x := if_pos h
theorem cu_o {V : Nat → Int32} {i k : Nat} {x : Int32} (h : k ≠ i) : cu V i x k = V k := if_neg h
theorem ct.kept {H H1 : Heap} {a n : Nat} {V : Nat → Int32} (h : ct H a n V) (e : H1[a]? = H[a]?) : ct H1 a n V := fun i hi => (el_kept e).trans (h i hi)
theorem ct.put {H H1 : Heap} {a n : Nat} {V : Nat → Int32} (h : ct H a n V) {i : Nat} {x : Int32} (e : el H1 a i = some (.int x)) (o : ∀ k, k ≠ i → el H1 a k = el H a k) : ct H1 a n (cu V i x) := by
  intro k hk
  by_cases q : k = i
  · rw [cu_s q, q]; exact e
  · rw [cu_o q]; exact (o k q).trans (h k hk)
theorem ct.at {H : Heap} {a n : Nat} {V : Nat → Int32} (h : ct H a n V) {i : Nat} {x : Int32} (e : el H a i = some (.int x)) (hi : i < n) : x = V i := by
  rw [h i hi] at e
  cases e
  rfl
theorem ct.ext {H : Heap} {a n : Nat} {V W : Nat → Int32} (h : ct H a n V) (e : ∀ i, i < n → V i = W i) : ct H a n W := fun i hi => by rw [← e i hi]; exact h i hi
theorem ct_of {D : va_G} {kA : Nat → ClassId} {Sg : Nat → gS} {G : gT} {H : Heap} {a t j n : Nat} {lo hi : Int} (hT : gH D kA Sg G H) (ha : G a = some t) (hs : Sg t = .inr (j, n, ga (gI lo hi))) : ∃ V : Nat → Int32, ct H a n V ∧ ∀ i, i < n → lo ≤ (V i).toInt ∧ (V i).toInt ≤ hi := by
  have h : ∀ i, i < n → ∃ x : Int32, el H a i = some (.int x) ∧ lo ≤ x.toInt ∧ x.toInt ≤ hi := by
    intro i hi
    obtain ⟨v, e, x, rfl, h1, h2⟩ := gH_el hT ha hs hi
    exact ⟨x, e, h1, h2⟩
  refine ⟨fun i => if q : i < n then Classical.choose (h i q) else 0, fun i hi => ?_, fun i hi => ?_⟩
  · simp only [dif_pos hi]; exact (Classical.choose_spec (h i hi)).1
  · simp only [dif_pos hi]; exact (Classical.choose_spec (h i hi)).2
theorem ct_rng {D : va_G} {kA : Nat → ClassId} {Sg : Nat → gS} {G : gT} {H : Heap} {a t j n : Nat} {lo hi : Int} {V : Nat → Int32} (hT : gH D kA Sg G H) (ha : G a = some t) (hs : Sg t = .inr (j, n, ga (gI lo hi))) (h : ct H a n V) : ∀ i, i < n → lo ≤ (V i).toInt ∧ (V i).toInt ≤ hi := by
  intro i hi
  obtain ⟨v, e, x, rfl, h1, h2⟩ := gH_el hT ha hs hi
  rw [h i hi] at e
  cases e
  exact ⟨h1, h2⟩
/-- an array whose places below k got a number -/
def flV (V : Nat → Int32) (x : Int32) (k : Nat) : Nat → Int32 := fun j => if j < k then x else V j
theorem fl_0 {V : Nat → Int32} {x : Int32} {i : Nat} : V i = flV V x 0 i := (if_neg (Nat.not_lt_zero i)).symm
theorem fl_s {V : Nat → Int32} {x : Int32} {k i : Nat} : cu (flV V x k) k x i = flV V x (k + 1) i := by
  by_cases e : i = k
  · rw [cu_s e]; exact (if_pos (by omega)).symm
  · rw [cu_o e]; unfold flV
    by_cases q : i < k
    · rw [if_pos q, if_pos (by omega)]
    · rw [if_neg q, if_neg (by omega)]
theorem fl_e {V : Nat → Int32} {x : Int32} {k i : Nat} (h : i < k) : flV V x k i = x := if_pos h
/-- how far a run goes: the first place from p on of which P doesn't hold, or n -/
def ruF (P : Int → Bool) (t : Nat → Int) (n : Nat) : Nat → Nat → Nat
  | 0, p => p
  | f + 1, p => if p < n ∧ P (t p) = true then ruF P t n f (p + 1) else p
def ru (P : Int → Bool) (t : Nat → Int) (n p : Nat) : Nat := ruF P t n (n - p) p
theorem ruF_s {P : Int → Bool} {t : Nat → Int} {n : Nat} : ∀ (f p : Nat), n - p ≤ f → p ≤ n → p ≤ ruF P t n f p ∧ ruF P t n f p ≤ n ∧ (∀ j, p ≤ j → j < ruF P t n f p → P (t j) = true) ∧ (ruF P t n f p < n → P (t (ruF P t n f p)) = false) := by
  intro f
  induction f with
  | zero =>
    intro p h1 h2
    show p ≤ p ∧ p ≤ n ∧ (∀ j, p ≤ j → j < p → P (t j) = true) ∧ (p < n → P (t p) = false)
    exact ⟨Nat.le_refl p, h2, fun j a b => by omega, fun h => by omega⟩
  | succ f ih =>
    intro p h1 h2
    show p ≤ (if p < n ∧ P (t p) = true then ruF P t n f (p + 1) else p) ∧ (if p < n ∧ P (t p) = true then ruF P t n f (p + 1) else p) ≤ n ∧ (∀ j, p ≤ j → j < (if p < n ∧ P (t p) = true then ruF P t n f (p + 1) else p) → P (t j) = true) ∧ ((if p < n ∧ P (t p) = true then ruF P t n f (p + 1) else p) < n → P (t (if p < n ∧ P (t p) = true then ruF P t n f (p + 1) else p)) = false)
    by_cases q : p < n ∧ P (t p) = true
    · rw [if_pos q]
      obtain ⟨a1, a2, a3, a4⟩ := ih (p + 1) (by omega) (by omega)
      refine ⟨by omega, a2, fun j b1 b2 => ?_, a4⟩
      by_cases e : j = p
      · rw [e]; exact q.2
      · exact a3 j (by omega) b2
    · rw [if_neg q]
      refine ⟨Nat.le_refl p, h2, fun j a b => by omega, fun h => ?_⟩
      cases e : P (t p) with
      | false => rfl
      | true => exact absurd ⟨h, e⟩ q
theorem ru_s {P : Int → Bool} {t : Nat → Int} {n p : Nat} (h : p ≤ n) : p ≤ ru P t n p ∧ ru P t n p ≤ n ∧ (∀ j, p ≤ j → j < ru P t n p → P (t j) = true) ∧ (ru P t n p < n → P (t (ru P t n p)) = false) := ruF_s (n - p) p (Nat.le_refl _) h
theorem ru_u {P : Int → Bool} {t : Nat → Int} {n p q : Nat} (h1 : p ≤ q) (h2 : q ≤ n) (h3 : ∀ j, p ≤ j → j < q → P (t j) = true) (h4 : q < n → P (t q) = false) : ru P t n p = q := by
  obtain ⟨a1, a2, a3, a4⟩ := ru_s (P := P) (t := t) (show p ≤ n by omega)
  rcases Nat.lt_trichotomy (ru P t n p) q with h | h | h
  · have b1 := h3 _ a1 h
    rw [a4 (by omega)] at b1
    cases b1
  · exact h
  · have b1 := a3 q h1 h
    rw [h4 (by omega)] at b1
    cases b1
theorem ru_i {P : Int → Bool} {t : Nat → Int} {n p : Nat} (h : p ≤ n) : ru P t n (ru P t n p) = ru P t n p := by
  obtain ⟨a1, a2, a3, a4⟩ := ru_s (P := P) (t := t) h
  exact ru_u (Nat.le_refl _) a2 (fun j b1 b2 => by omega) a4
def spB (v : Int) : Bool := decide (v = 32)
def ltB (v : Int) : Bool := decide (97 ≤ v ∧ v ≤ 122)
def dgB (v : Int) : Bool := decide (48 ≤ v ∧ v ≤ 57)
theorem spB_1 {v : Int} (h : v = 32) : spB v = true := decide_eq_true h
theorem spB_0 {v : Int} (h : v ≠ 32) : spB v = false := decide_eq_false h
theorem ltB_1 {v : Int} (h : 97 ≤ v ∧ v ≤ 122) : ltB v = true := decide_eq_true h
theorem ltB_0 {v : Int} (h : ¬ (97 ≤ v ∧ v ≤ 122)) : ltB v = false := decide_eq_false h
theorem dgB_1 {v : Int} (h : 48 ≤ v ∧ v ≤ 57) : dgB v = true := decide_eq_true h
theorem dgB_0 {v : Int} (h : ¬ (48 ≤ v ∧ v ≤ 57)) : dgB v = false := decide_eq_false h
theorem spB_e {v : Int} (h : spB v = true) : v = 32 := of_decide_eq_true h
theorem ltB_e {v : Int} (h : ltB v = true) : 97 ≤ v ∧ v ≤ 122 := of_decide_eq_true h
theorem dgB_e {v : Int} (h : dgB v = true) : 48 ≤ v ∧ v ≤ 57 := of_decide_eq_true h
theorem spB_n {v : Int} (h : spB v = false) : v ≠ 32 := of_decide_eq_false h
theorem ltB_n {v : Int} (h : ltB v = false) : ¬ (97 ≤ v ∧ v ≤ 122) := of_decide_eq_false h
theorem dgB_n {v : Int} (h : dgB v = false) : ¬ (48 ≤ v ∧ v ≤ 57) := of_decide_eq_false h
/-- a word stands between b and e -/
def wd (L : List Int) (t : Nat → Int) (b e : Nat) : Prop := e = b + L.length ∧ ∀ k, k < L.length → t (b + k) = L.getD k 0
theorem wd.uniq {L M : List Int} {t : Nat → Int} {b e : Nat} (h : wd L t b e) (g : wd M t b e) : L = M := by
  have hl : L.length = M.length := by have := h.1; have := g.1; omega
  refine List.ext_getElem hl (fun k h1 h2 => ?_)
  have a := (h.2 k h1).symm.trans (g.2 k h2)
  rw [List.getD_eq_getElem?_getD, List.getD_eq_getElem?_getD, List.getElem?_eq_getElem h1, List.getElem?_eq_getElem h2] at a
  exact a
def WT : List (List Int × Int) := [([97, 99, 114, 101, 115], 0), ([103, 97, 105, 110], 1), ([97, 103, 101], 2), ([115, 111, 110, 115], 3), ([99, 111, 105, 110], 4), ([99, 97, 116, 116, 108, 101], 5), ([107, 105, 110], 6), ([98, 111, 97, 114, 100], 7), ([110, 101, 97, 114], 8), ([111, 119, 101, 115], 9), ([100, 117, 101, 115], 30), ([118, 111, 116, 101, 115], 32), ([102, 105, 110, 101], 33), ([109, 97, 114, 107], 34), ([99, 97, 108, 108], 35), ([111, 117, 116], 36), ([108, 101, 118, 101, 108], 37), ([112, 97, 115, 115], 38), ([98, 97, 114], 39), ([105, 102], 19), ([105, 110], 20), ([110, 111, 116], 13), ([97, 110, 100], 14), ([111, 114], 15)]
theorem WT_u : ∀ w ∈ WT, ∀ v ∈ WT, w.1 = v.1 → w.2 = v.2 := by decide +kernel
theorem WT_c : ∀ w ∈ WT, 0 ≤ w.2 ∧ w.2 ≤ 39 ∧ w.2 ≠ 21 ∧ w.2 ≠ 22 ∧ w.2 ≠ 10 ∧ w.2 ≠ 11 ∧ w.2 ≠ 12 ∧ w.2 ≠ 16 ∧ w.2 ≠ 17 ∧ w.2 ≠ 18 := by decide +kernel
noncomputable def wk (t : Nat → Int) (b e : Nat) : Int := match WT.find? (fun w => @decide (wd w.1 t b e) (Classical.propDecidable _)) with
  | some w => w.2
  | none => 22
theorem wk_1 {t : Nat → Int} {b e : Nat} {w : List Int × Int} (hw : w ∈ WT) (h : wd w.1 t b e) : wk t b e = w.2 := by
  unfold wk
  cases q : WT.find? (fun w => @decide (wd w.1 t b e) (Classical.propDecidable _)) with
  | none => exact absurd (@decide_eq_true _ (Classical.propDecidable _) h) (List.find?_eq_none.mp q w hw)
  | some v =>
    have v1 := List.mem_of_find?_eq_some q
    have v2 : wd v.1 t b e := @of_decide_eq_true _ (Classical.propDecidable _) (show @decide (wd v.1 t b e) (Classical.propDecidable _) = true from List.find?_some (p := fun w : List Int × Int => @decide (wd w.1 t b e) (Classical.propDecidable _)) q)
    exact WT_u v v1 w hw (v2.uniq h)
theorem wk_0 {t : Nat → Int} {b e : Nat} (h : ∀ w ∈ WT, ¬ wd w.1 t b e) : wk t b e = 22 := by
  unfold wk
  cases q : WT.find? (fun w => @decide (wd w.1 t b e) (Classical.propDecidable _)) with
  | none => rfl
  | some v => exact absurd (@of_decide_eq_true _ (Classical.propDecidable _) (show @decide (wd v.1 t b e) (Classical.propDecidable _) = true from List.find?_some (p := fun w : List Int × Int => @decide (wd w.1 t b e) (Classical.propDecidable _)) q)) (h v (List.mem_of_find?_eq_some q))
theorem wk_e {t : Nat → Int} {b e : Nat} {w : List Int × Int} (hw : w ∈ WT) (h : wk t b e = w.2) (hd : ∀ v ∈ WT, v.2 = w.2 → v.1 = w.1) (h2 : w.2 ≠ 22) : wd w.1 t b e := by
  unfold wk at h
  cases q : WT.find? (fun w => @decide (wd w.1 t b e) (Classical.propDecidable _)) with
  | none => rw [q] at h; exact absurd h.symm h2
  | some v =>
    rw [q] at h
    rw [← hd v (List.mem_of_find?_eq_some q) h]
    exact @of_decide_eq_true _ (Classical.propDecidable _) (show @decide (wd v.1 t b e) (Classical.propDecidable _) = true from List.find?_some (p := fun w : List Int × Int => @decide (wd w.1 t b e) (Classical.propDecidable _)) q)
theorem wk_c {t : Nat → Int} {b e : Nat} : (∃ w ∈ WT, wk t b e = w.2) ∨ wk t b e = 22 := by
  unfold wk
  cases q : WT.find? (fun w => @decide (wd w.1 t b e) (Classical.propDecidable _)) with
  | none => exact Or.inr rfl
  | some v => exact Or.inl ⟨v, List.mem_of_find?_eq_some q, rfl⟩
/-- the number that the digits from b on make -/
def nv (t : Nat → Int) (b : Nat) : Nat → Int
  | 0 => 0
  | k + 1 => nv t b k * 10 + t (b + k) - 48
def sgT (v : Int) : Int := if v = 43 then 10 else if v = 60 then 11 else if v = 62 then 12 else if v = 40 then 16 else if v = 41 then 17 else if v = 59 then 18 else 22
/-- what stands at b: the class's number for it -/
noncomputable def kd (t : Nat → Int) (n b : Nat) : Int := if n ≤ b then 21 else if ltB (t b) = true then wk t b (ru ltB t n b) else if dgB (t b) = true then (if 5 < ru dgB t n b - b then 22 else 40 + nv t b (ru dgB t n b - b)) else sgT (t b)
def te (t : Nat → Int) (n b : Nat) : Nat := if ltB (t b) = true then ru ltB t n b else if dgB (t b) = true then ru dgB t n b else b + 1
/-- where the next thing begins -/
def xn (t : Nat → Int) (n b : Nat) : Nat := ru spB t n (te t n b)
def skp (t : Nat → Int) (n p : Nat) : Nat := ru spB t n p
theorem kd_e {t : Nat → Int} {n b : Nat} (h : n ≤ b) : kd t n b = 21 := if_pos h
theorem kd_w {t : Nat → Int} {n b : Nat} (h : b < n) (h1 : ltB (t b) = true) : kd t n b = wk t b (ru ltB t n b) := by
  unfold kd
  rw [if_neg (by omega), if_pos h1]
theorem kd_d {t : Nat → Int} {n b : Nat} (h : b < n) (h1 : ltB (t b) = false) (h2 : dgB (t b) = true) : kd t n b = if 5 < ru dgB t n b - b then 22 else 40 + nv t b (ru dgB t n b - b) := by
  unfold kd
  rw [if_neg (by omega), if_neg (by rw [h1]; decide), if_pos h2]
theorem kd_s {t : Nat → Int} {n b : Nat} (h : b < n) (h1 : ltB (t b) = false) (h2 : dgB (t b) = false) : kd t n b = sgT (t b) := by
  unfold kd
  rw [if_neg (by omega), if_neg (by rw [h1]; decide), if_neg (by rw [h2]; decide)]
theorem te_w {t : Nat → Int} {n b : Nat} (h1 : ltB (t b) = true) : te t n b = ru ltB t n b := if_pos h1
theorem te_d {t : Nat → Int} {n b : Nat} (h1 : ltB (t b) = false) (h2 : dgB (t b) = true) : te t n b = ru dgB t n b := by
  unfold te
  rw [if_neg (by rw [h1]; decide), if_pos h2]
theorem te_s {t : Nat → Int} {n b : Nat} (h1 : ltB (t b) = false) (h2 : dgB (t b) = false) : te t n b = b + 1 := by
  unfold te
  rw [if_neg (by rw [h1]; decide), if_neg (by rw [h2]; decide)]
theorem dg_lt {v : Int} (h : dgB v = true) : ltB v = false := ltB_0 (fun q => by have := dgB_e h; omega)
theorem ru_m {P : Int → Bool} {t : Nat → Int} {n b : Nat} (h : b < n) (h1 : P (t b) = true) : b + 1 ≤ ru P t n b := by
  obtain ⟨a1, a2, a3, a4⟩ := ru_s (P := P) (t := t) (show b ≤ n by omega)
  rcases Nat.lt_or_ge b (ru P t n b) with q | q
  · omega
  · have e : ru P t n b = b := by omega
    have z := a4 (by omega)
    rw [e, h1] at z
    cases z
theorem te_b {t : Nat → Int} {n b : Nat} (h : b < n) : b + 1 ≤ te t n b ∧ te t n b ≤ n := by
  cases h1 : ltB (t b) with
  | true => rw [te_w h1]; exact ⟨ru_m h h1, (ru_s (by omega)).2.1⟩
  | false =>
    cases h2 : dgB (t b) with
    | true => rw [te_d h1 h2]; exact ⟨ru_m h h2, (ru_s (by omega)).2.1⟩
    | false => rw [te_s h1 h2]; omega
theorem xn_b {t : Nat → Int} {n b : Nat} (h : b < n) : b + 1 ≤ xn t n b ∧ xn t n b ≤ n := by
  have a := te_b (t := t) h
  have c := ru_s (P := spB) (t := t) a.2
  exact ⟨Nat.le_trans a.1 c.1, c.2.1⟩
theorem nv_b {t : Nat → Int} {b : Nat} : ∀ k : Nat, (∀ j, j < k → 48 ≤ t (b + j) ∧ t (b + j) ≤ 57) → 0 ≤ nv t b k
  | 0, _ => Int.le_refl 0
  | k + 1, h => by
    have a := nv_b k (fun j hj => h j (by omega))
    have c := h k (by omega)
    show 0 ≤ nv t b k * 10 + t (b + k) - 48
    omega
theorem kd_21 {t : Nat → Int} {n b : Nat} (h : kd t n b = 21) : n ≤ b := by
  rcases Nat.lt_or_ge b n with q | q
  · exfalso
    cases h1 : ltB (t b) with
    | true =>
      rw [kd_w q h1] at h
      rcases wk_c (t := t) (b := b) (e := ru ltB t n b) with ⟨w, w1, w2⟩ | w2
      · have := WT_c w w1; omega
      · omega
    | false =>
      cases h2 : dgB (t b) with
      | true =>
        rw [kd_d q h1 h2] at h
        by_cases z : 5 < ru dgB t n b - b
        · rw [if_pos z] at h; omega
        · rw [if_neg z] at h
          have := nv_b (t := t) (b := b) (ru dgB t n b - b) (fun j hj => dgB_e ((ru_s (P := dgB) (t := t) (show b ≤ n by omega)).2.2.1 (b + j) (by omega) (by omega)))
          omega
      | false =>
        rw [kd_s q h1 h2] at h
        unfold sgT at h
        (repeat' split at h) <;> omega
  · exact q
/-- the grammar, over what stands where (K) and where the next thing begins (X): r is 1 or 0, f where it goes on, or the first wrong one -/
def pR (K : Nat → Int) (X : Nat → Nat) (b : Nat) (r : Int) (f : Nat) : Prop := ((K b < 10 ∨ 40 ≤ K b) ∧ r = 1 ∧ f = X b) ∨ (¬ (K b < 10 ∨ 40 ≤ K b) ∧ r = 0 ∧ f = b)
def tR (K : Nat → Int) (X : Nat → Nat) (c : Int) (b : Nat) (r : Int) (f : Nat) : Prop := (K b = c ∧ r = 1 ∧ f = X b) ∨ (K b ≠ c ∧ r = 0 ∧ f = b)
def nR (K : Nat → Int) (X : Nat → Nat) (h : Int) (b : Nat) (r : Int) (f : Nat) : Prop := ((40 ≤ K b ∧ K b ≤ 40 + h) ∧ r = 1 ∧ f = X b) ∨ (¬ (40 ≤ K b ∧ K b ≤ 40 + h) ∧ r = 0 ∧ f = b)
abbrev gP9 : Type := Nat → Int → Nat → Prop
def sq (P Q : gP9) (b : Nat) (r : Int) (f : Nat) : Prop := (P b 0 f ∧ r = 0) ∨ ∃ b1, P b 1 b1 ∧ Q b1 r f
def lpF (K : Nat → Int) (X : Nat → Nat) (P : gP9) (c : Int) : Nat → gP9
  | 0 => fun _ _ _ => False
  | m + 1 => fun b r f => (P b 0 f ∧ r = 0) ∨ ∃ b1, P b 1 b1 ∧ ((K b1 ≠ c ∧ r = 1 ∧ f = b1) ∨ (K b1 = c ∧ lpF K X P c m (X b1) r f))
def lpR (K : Nat → Int) (X : Nat → Nat) (P : gP9) (c : Int) : gP9 := fun b r f => ∃ m, lpF K X P c m b r f
/-- behind a part that was read -/
def lpQ (K : Nat → Int) (X : Nat → Nat) (P : gP9) (c : Int) : gP9 := fun b r f => (K b ≠ c ∧ r = 1 ∧ f = b) ∨ (K b = c ∧ lpR K X P c (X b) r f)
theorem lp_0 {K : Nat → Int} {X : Nat → Nat} {P : gP9} {c : Int} {b f : Nat} (h : P b 0 f) : lpR K X P c b 0 f := ⟨1, Or.inl ⟨h, rfl⟩⟩
theorem lp_1 {K : Nat → Int} {X : Nat → Nat} {P : gP9} {c : Int} {b b1 : Nat} (h : P b 1 b1) : ∀ r f, lpQ K X P c b1 r f → lpR K X P c b r f := by
  intro r f q
  rcases q with q | ⟨q, m, z⟩
  · exact ⟨1, Or.inr ⟨b1, h, Or.inl q⟩⟩
  · exact ⟨m + 1, Or.inr ⟨b1, h, Or.inr ⟨q, z⟩⟩⟩
theorem lp_s {K : Nat → Int} {X : Nat → Nat} {P : gP9} {c : Int} {b b1 b2 : Nat} (h : ∀ r f, lpQ K X P c b1 r f → lpR K X P c b r f) (hk : K b1 = c) (hp : P (X b1) 1 b2) : ∀ r f, lpQ K X P c b2 r f → lpR K X P c b r f := fun r f q => h r f (Or.inr ⟨hk, lp_1 hp r f q⟩)
theorem lp_f {K : Nat → Int} {X : Nat → Nat} {P : gP9} {c : Int} {b b1 f : Nat} (h : ∀ r f, lpQ K X P c b1 r f → lpR K X P c b r f) (hk : K b1 = c) (hp : P (X b1) 0 f) : lpR K X P c b 0 f := h 0 f (Or.inr ⟨hk, lp_0 hp⟩)
theorem lp_e {K : Nat → Int} {X : Nat → Nat} {P : gP9} {c : Int} {b b1 : Nat} (h : ∀ r f, lpQ K X P c b1 r f → lpR K X P c b r f) (hk : K b1 ≠ c) : lpR K X P c b 1 b1 := h 1 b1 (Or.inl ⟨hk, rfl, rfl⟩)
def gU1 (P : gP9) : Prop := ∀ b r f r1 f1, P b r f → P b r1 f1 → r = r1 ∧ f = f1
theorem pR_u {K : Nat → Int} {X : Nat → Nat} : gU1 (pR K X) := by
  intro b r f r1 f1 h g
  rcases h with ⟨h0, h1, h2⟩ | ⟨h0, h1, h2⟩ <;> rcases g with ⟨g0, g1, g2⟩ | ⟨g0, g1, g2⟩ <;> omega
theorem tR_u {K : Nat → Int} {X : Nat → Nat} {c : Int} : gU1 (tR K X c) := by
  intro b r f r1 f1 h g
  rcases h with ⟨h0, h1, h2⟩ | ⟨h0, h1, h2⟩ <;> rcases g with ⟨g0, g1, g2⟩ | ⟨g0, g1, g2⟩ <;> omega
theorem nR_u {K : Nat → Int} {X : Nat → Nat} {c : Int} : gU1 (nR K X c) := by
  intro b r f r1 f1 h g
  rcases h with ⟨h0, h1, h2⟩ | ⟨h0, h1, h2⟩ <;> rcases g with ⟨g0, g1, g2⟩ | ⟨g0, g1, g2⟩ <;> omega
theorem sq_u {P Q : gP9} (hP : gU1 P) (hQ : gU1 Q) : gU1 (sq P Q) := by
  intro b r f r1 f1 h g
  rcases h with ⟨h0, h1⟩ | ⟨b1, h0, h1⟩ <;> rcases g with ⟨g0, g1⟩ | ⟨b2, g0, g1⟩
  · have := hP _ _ _ _ _ h0 g0; omega
  · have := hP _ _ _ _ _ h0 g0; omega
  · have := hP _ _ _ _ _ h0 g0; omega
  · obtain ⟨-, rfl⟩ := hP _ _ _ _ _ h0 g0; exact hQ _ _ _ _ _ h1 g1
theorem lpF_u {K : Nat → Int} {X : Nat → Nat} {P : gP9} {c : Int} (hP : gU1 P) : ∀ (m m1 b : Nat) (r : Int) (f : Nat) (r1 : Int) (f1 : Nat), lpF K X P c m b r f → lpF K X P c m1 b r1 f1 → r = r1 ∧ f = f1 := by
  intro m
  induction m with
  | zero => intro m1 b r f r1 f1 h _; exact absurd h (fun z => z)
  | succ m ih =>
    intro m1 b r f r1 f1 h g
    cases m1 with
    | zero => exact absurd g (fun z => z)
    | succ m1 =>
      rcases h with ⟨h0, h1⟩ | ⟨b1, h0, h1⟩ <;> rcases g with ⟨g0, g1⟩ | ⟨b2, g0, g1⟩
      · have := hP _ _ _ _ _ h0 g0; omega
      · have := hP _ _ _ _ _ h0 g0; omega
      · have := hP _ _ _ _ _ h0 g0; omega
      · obtain ⟨-, rfl⟩ := hP _ _ _ _ _ h0 g0
        rcases h1 with ⟨h1, h2, h3⟩ | ⟨h1, h2⟩ <;> rcases g1 with ⟨g1, g2, g3⟩ | ⟨g1, g2⟩
        · omega
        · exact absurd g1 h1
        · exact absurd h1 g1
        · exact ih _ _ _ _ _ _ h2 g2
theorem lp_u {K : Nat → Int} {X : Nat → Nat} {P : gP9} {c : Int} (hP : gU1 P) : gU1 (lpR K X P c) := by
  intro b r f r1 f1 ⟨m, h⟩ ⟨m1, g⟩
  exact lpF_u hP m m1 b r f r1 f1 h g
def smR (K : Nat → Int) (X : Nat → Nat) : gP9 := lpR K X (pR K X) 10
def opR (K : Nat → Int) (X : Nat → Nat) : gP9 := fun b r f => ((K b = 11 ∨ K b = 12) ∧ r = 1 ∧ f = X b) ∨ (¬ (K b = 11 ∨ K b = 12) ∧ r = 0 ∧ f = b)
def cmR (K : Nat → Int) (X : Nat → Nat) : gP9 := sq (smR K X) (sq (opR K X) (smR K X))
def coR (K : Nat → Int) (X : Nat → Nat) (P : gP9) : gP9 := lpR K X (lpR K X P 14) 15
/-- so many ( and not may still come within one another -/
def aR (K : Nat → Int) (X : Nat → Nat) : Nat → gP9
  | 0 => fun b r f => ((K b = 16 ∨ K b = 13) ∧ r = 0 ∧ f = b) ∨ (¬ (K b = 16 ∨ K b = 13) ∧ cmR K X b r f)
  | d + 1 => fun b r f => (K b = 13 ∧ aR K X d (X b) r f) ∨ (K b = 16 ∧ sq (coR K X (aR K X d)) (tR K X 17) (X b) r f) ∨ (¬ (K b = 16 ∨ K b = 13) ∧ cmR K X b r f)
theorem opR_u {K : Nat → Int} {X : Nat → Nat} : gU1 (opR K X) := by
  intro b r f r1 f1 h g
  rcases h with ⟨h0, h1, h2⟩ | ⟨h0, h1, h2⟩ <;> rcases g with ⟨g0, g1, g2⟩ | ⟨g0, g1, g2⟩ <;> omega
theorem cmR_u {K : Nat → Int} {X : Nat → Nat} : gU1 (cmR K X) := sq_u (lp_u pR_u) (sq_u opR_u (lp_u pR_u))
theorem aR_u {K : Nat → Int} {X : Nat → Nat} : ∀ d : Nat, gU1 (aR K X d) := by
  intro d
  induction d with
  | zero =>
    intro b r f r1 f1 h g
    rcases h with ⟨h0, h1, h2⟩ | ⟨h0, h1⟩ <;> rcases g with ⟨g0, g1, g2⟩ | ⟨g0, g1⟩
    · omega
    · exact absurd h0 g0
    · exact absurd g0 h0
    · exact cmR_u _ _ _ _ _ h1 g1
  | succ d ih =>
    intro b r f r1 f1 h g
    rcases h with ⟨h0, h1⟩ | ⟨h0, h1⟩ | ⟨h0, h1⟩ <;> rcases g with ⟨g0, g1⟩ | ⟨g0, g1⟩ | ⟨g0, g1⟩ <;> first | (exfalso; omega) | exact ih _ _ _ _ _ h1 g1 | exact cmR_u _ _ _ _ _ h1 g1 | exact sq_u (lp_u (lp_u ih)) tR_u _ _ _ _ _ h1 g1
def cdR (K : Nat → Int) (X : Nat → Nat) : gP9 := coR K X (aR K X 6)
def ifR (K : Nat → Int) (X : Nat → Nat) : gP9 := fun b r f => (K b ≠ 19 ∧ r = 1 ∧ f = b) ∨ (K b = 19 ∧ cdR K X (X b) r f)
def lkT (v : Int) : Int := if v = 1 then 1 else if 30 ≤ v ∧ v ≤ 39 then v - 30 else -1
def lvR (K : Nat → Int) (X : Nat → Nat) : gP9 := sq (nR K X 900) (sq (nR K X 900) (sq (tR K X 20) (sq (nR K X 95) (nR K X 95))))
def lnR (K : Nat → Int) (X : Nat → Nat) : gP9 := fun b r f => (lkT (K b) = -1 ∧ r = 0 ∧ f = b) ∨ (lkT (K b) = 7 ∧ lvR K X (X b) r f) ∨ (lkT (K b) = 8 ∧ nR K X 100 (X b) r f) ∨ (lkT (K b) = 9 ∧ nR K X 18 (X b) r f) ∨ ((lkT (K b) = 5 ∨ lkT (K b) = 6) ∧ ifR K X (X b) r f) ∨ ((0 ≤ lkT (K b) ∧ lkT (K b) ≤ 4) ∧ sq (nR K X 99999) (ifR K X) (X b) r f)
theorem ifR_u {K : Nat → Int} {X : Nat → Nat} : gU1 (ifR K X) := by
  intro b r f r1 f1 h g
  rcases h with ⟨h0, h1, h2⟩ | ⟨h0, h1⟩ <;> rcases g with ⟨g0, g1, g2⟩ | ⟨g0, g1⟩
  · omega
  · exact absurd g0 h0
  · exact absurd h0 g0
  · exact lp_u (lp_u (aR_u 6)) _ _ _ _ _ h1 g1
theorem lnR_u {K : Nat → Int} {X : Nat → Nat} : gU1 (lnR K X) := by
  intro b r f r1 f1 h g
  have u7 : gU1 (lvR K X) := sq_u nR_u (sq_u nR_u (sq_u tR_u (sq_u nR_u nR_u)))
  have u5 : gU1 (sq (nR K X 99999) (ifR K X)) := sq_u nR_u ifR_u
  rcases h with ⟨h0, h1, h2⟩ | ⟨h0, h1⟩ | ⟨h0, h1⟩ | ⟨h0, h1⟩ | ⟨h0, h1⟩ | ⟨h0, h1⟩ <;> rcases g with ⟨g0, g1, g2⟩ | ⟨g0, g1⟩ | ⟨g0, g1⟩ | ⟨g0, g1⟩ | ⟨g0, g1⟩ | ⟨g0, g1⟩ <;> first | (exfalso; omega) | omega | exact u7 _ _ _ _ _ h1 g1 | exact nR_u _ _ _ _ _ h1 g1 | exact ifR_u _ _ _ _ _ h1 g1 | exact u5 _ _ _ _ _ h1 g1
/-- the lines: k of them stand; c: how many there are then, or -1; f: the first wrong byte, or -1 -/
def lwF (K : Nat → Int) (X : Nat → Nat) : Nat → Nat → Nat → Int → Int → Prop
  | 0 => fun _ _ _ _ => False
  | m + 1 => fun k b c f => (20 ≤ k ∧ c = -1 ∧ f = ((b : Nat) : Int)) ∨ (k < 20 ∧ ((∃ z, lnR K X b 0 z ∧ c = -1 ∧ f = ((z : Nat) : Int)) ∨ ∃ b1, lnR K X b 1 b1 ∧ ((K b1 = 18 ∧ lwF K X m (k + 1) (X b1) c f) ∨ (K b1 = 21 ∧ c = ((k : Nat) : Int) + 1 ∧ f = -1) ∨ (K b1 ≠ 18 ∧ K b1 ≠ 21 ∧ c = -1 ∧ f = ((b1 : Nat) : Int)))))
def lwR (K : Nat → Int) (X : Nat → Nat) (k b : Nat) (c f : Int) : Prop := ∃ m, lwF K X m k b c f
theorem lwF_u {K : Nat → Int} {X : Nat → Nat} : ∀ (m m1 k b : Nat) (c f c1 f1 : Int), lwF K X m k b c f → lwF K X m1 k b c1 f1 → c = c1 ∧ f = f1 := by
  intro m
  induction m with
  | zero => intro m1 k b c f c1 f1 h _; exact absurd h (fun z => z)
  | succ m ih =>
    intro m1 k b c f c1 f1 h g
    cases m1 with
    | zero => exact absurd g (fun z => z)
    | succ m1 =>
      rcases h with ⟨h0, h1, h2⟩ | ⟨h0, h1⟩ <;> rcases g with ⟨g0, g1, g2⟩ | ⟨g0, g1⟩
      · omega
      · omega
      · omega
      · rcases h1 with ⟨z, h1, h2, h3⟩ | ⟨b1, h1, h2⟩ <;> rcases g1 with ⟨y, g1, g2, g3⟩ | ⟨b2, g1, g2⟩
        · have := lnR_u _ _ _ _ _ h1 g1; omega
        · have := lnR_u _ _ _ _ _ h1 g1; omega
        · have := lnR_u _ _ _ _ _ h1 g1; omega
        · obtain ⟨-, rfl⟩ := lnR_u _ _ _ _ _ h1 g1
          rcases h2 with ⟨h2, h3⟩ | ⟨h2, h3, h4⟩ | ⟨h2, h3, h4, h5⟩ <;> rcases g2 with ⟨g2, g3⟩ | ⟨g2, g3, g4⟩ | ⟨g2, g3, g4, g5⟩ <;> first | exact ih _ _ _ _ _ _ _ h3 g3 | omega
/-- the whole text -/
def laR (t : Nat → Int) (n : Nat) (c f : Int) : Prop := (skp t n 0 = n ∧ c = 0 ∧ f = -1) ∨ (skp t n 0 ≠ n ∧ lwR (kd t n) (xn t n) 0 (skp t n 0) c f)
theorem laR_u {t : Nat → Int} {n : Nat} {c f c1 f1 : Int} (h : laR t n c f) (g : laR t n c1 f1) : c = c1 ∧ f = f1 := by
  rcases h with ⟨h0, h1, h2⟩ | ⟨h0, m, h1⟩ <;> rcases g with ⟨g0, g1, g2⟩ | ⟨g0, m1, g1⟩
  · omega
  · exact absurd h0 g0
  · exact absurd g0 h0
  · exact lwF_u _ _ _ _ _ _ _ _ h1 g1
noncomputable def laE (t : Nat → Int) (n : Nat) : Int × Int := Classical.epsilon (fun z : Int × Int => laR t n z.1 z.2)
theorem laE_s {t : Nat → Int} {n : Nat} {c f : Int} (h : laR t n c f) : c = (laE t n).1 ∧ f = (laE t n).2 := by
  have q : laR t n (laE t n).1 (laE t n).2 := Classical.epsilon_spec (p := fun z : Int × Int => laR t n z.1 z.2) ⟨(c, f), h⟩
  exact laR_u h q
def sWl : List (List Int) := [[97, 99, 114, 101, 115], [103, 97, 105, 110], [97, 103, 101], [115, 111, 110, 115], [99, 111, 105, 110], [99, 97, 116, 116, 108, 101], [107, 105, 110], [98, 111, 97, 114, 100], [110, 101, 97, 114], [111, 119, 101, 115], [110, 111, 116], [97, 110, 100], [111, 114], [105, 110], [100, 117, 101, 115], [118, 111, 116, 101, 115], [102, 105, 110, 101], [109, 97, 114, 107], [99, 97, 108, 108], [111, 117, 116], [108, 101, 118, 101, 108], [112, 97, 115, 115], [98, 97, 114], [105, 102], [105, 102], [105, 110], [110, 111, 116], [97, 110, 100], [111, 114], [97, 99, 114, 101, 115], [103, 97, 105, 110], [97, 103, 101], [115, 111, 110, 115], [99, 111, 105, 110], [99, 97, 116, 116, 108, 101], [107, 105, 110], [98, 111, 97, 114, 100], [110, 101, 97, 114], [111, 119, 101, 115], [100, 117, 101, 115], [118, 111, 116, 101, 115], [102, 105, 110, 101], [109, 97, 114, 107], [99, 97, 108, 108], [111, 117, 116], [108, 101, 118, 101, 108], [112, 97, 115, 115], [98, 97, 114]]
def sW (i : Nat) : List Int := sWl.getD i []
def sCl : List Int := [0, 1, 2, 3, 4, 5, 6, 7, 8, 9, 13, 14, 15, 20, 30, 32, 33, 34, 35, 36, 37, 38, 39, 19, 19, 20, 13, 14, 15, 0, 1, 2, 3, 4, 5, 6, 7, 8, 9, 30, 32, 33, 34, 35, 36, 37, 38, 39]
def sC (i : Nat) : Int := sCl.getD i 22
/-- the text that an array holds -/
def tx (V : Nat → Int32) : Nat → Int := fun k => (V k).toInt
theorem sW_l {i : Nat} (h : i < 48) : (sW i).length = sLn i := by
  revert i
  decide
theorem sW_in {i : Nat} (h : i < 48) : (sW i, sC i) ∈ WT := by
  revert i
  decide +kernel
theorem sW_u : ∀ v ∈ WT, ∀ i, i < 48 → v.2 = sC i → v.1 = sW i := by decide +kernel
/-- a word that stands there -/
theorem pw_1 {t : Nat → Int} {n b i : Nat} (hi : i < 48) (hb : b ≤ n) (h : wd (sW i) t b (ru ltB t n b)) : kd t n b = sC i ∧ te t n b = ru ltB t n b := by
  obtain ⟨a1, a2, a3, a4⟩ := ru_s (P := ltB) (t := t) hb
  have l1 := sW_l hi
  have l2 := sLn_b hi
  have e := h.1
  have hl := a3 b (Nat.le_refl b) (by omega)
  exact ⟨(kd_w (by omega) hl).trans (wk_1 (sW_in hi) h), te_w hl⟩
theorem kd_c {t : Nat → Int} {n b i : Nat} (hi : i < 48) (h : kd t n b = sC i) : b < n ∧ ltB (t b) = true := by
  have c := WT_c _ (sW_in hi)
  have c1 : 0 ≤ sC i ∧ sC i ≤ 39 ∧ sC i ≠ 21 ∧ sC i ≠ 22 ∧ sC i ≠ 10 ∧ sC i ≠ 11 ∧ sC i ≠ 12 ∧ sC i ≠ 16 ∧ sC i ≠ 17 ∧ sC i ≠ 18 := c
  rcases Nat.lt_or_ge b n with q | q
  · refine ⟨q, ?_⟩
    cases h1 : ltB (t b) with
    | true => rfl
    | false =>
      exfalso
      cases h2 : dgB (t b) with
      | true =>
        rw [kd_d q h1 h2] at h
        by_cases z : 5 < ru dgB t n b - b
        · rw [if_pos z] at h; omega
        · rw [if_neg z] at h
          have := nv_b (t := t) (b := b) (ru dgB t n b - b) (fun j hj => dgB_e ((ru_s (P := dgB) (t := t) (show b ≤ n by omega)).2.2.1 (b + j) (by omega) (by omega)))
          omega
      | false =>
        rw [kd_s q h1 h2] at h
        unfold sgT at h
        (repeat' split at h) <;> omega
  · rw [kd_e q] at h; omega
theorem pw_0 {t : Nat → Int} {n b i : Nat} (hi : i < 48) (h : ¬ wd (sW i) t b (ru ltB t n b)) : kd t n b ≠ sC i := by
  intro e
  obtain ⟨q1, q2⟩ := kd_c hi e
  rw [kd_w q1 q2] at e
  exact h (wk_e (w := (sW i, sC i)) (sW_in hi) e (fun v hv z => sW_u v hv i hi z) (WT_c _ (sW_in hi)).2.2.2.1)
/-- a sign that stands there -/
def sgS (c : Int) : Prop := c = 43 ∨ c = 60 ∨ c = 62 ∨ c = 40 ∨ c = 41 ∨ c = 59
theorem sgS_n {c : Int} (h : sgS c) : ltB c = false ∧ dgB c = false := by
  rcases h with rfl | rfl | rfl | rfl | rfl | rfl <;> decide
theorem sg_1 {t : Nat → Int} {n b : Nat} {c : Int} (hc : sgS c) (hb : b < n) (h : t b = c) : kd t n b = sgT c ∧ te t n b = b + 1 := by
  obtain ⟨h1, h2⟩ := sgS_n hc
  rw [← h] at h1 h2
  exact ⟨(kd_s hb h1 h2).trans (by rw [h]), te_s h1 h2⟩
theorem sgT_u {c v : Int} (hc : sgS c) (h : sgT v = sgT c) : v = c := by
  rcases hc with rfl | rfl | rfl | rfl | rfl | rfl <;> unfold sgT at h <;> (repeat' split at h) <;> omega
theorem sgT_c {c : Int} (hc : sgS c) : sgT c = 10 ∨ sgT c = 11 ∨ sgT c = 12 ∨ sgT c = 16 ∨ sgT c = 17 ∨ sgT c = 18 := by
  rcases hc with rfl | rfl | rfl | rfl | rfl | rfl <;> decide
theorem sg_0 {t : Nat → Int} {n b : Nat} {c : Int} (hc : sgS c) (h : ¬ (b < n ∧ t b = c)) : kd t n b ≠ sgT c := by
  intro e
  have z := sgT_c hc
  rcases Nat.lt_or_ge b n with q | q
  · cases h1 : ltB (t b) with
    | true =>
      rw [kd_w q h1] at e
      rcases wk_c (t := t) (b := b) (e := ru ltB t n b) with ⟨w, w1, w2⟩ | w2
      · have := WT_c w w1; omega
      · omega
    | false =>
      cases h2 : dgB (t b) with
      | true =>
        rw [kd_d q h1 h2] at e
        by_cases y : 5 < ru dgB t n b - b
        · rw [if_pos y] at e; omega
        · rw [if_neg y] at e
          have := nv_b (t := t) (b := b) (ru dgB t n b - b) (fun j hj => dgB_e ((ru_s (P := dgB) (t := t) (show b ≤ n by omega)).2.2.1 (b + j) (by omega) (by omega)))
          omega
      | false =>
        rw [kd_s q h1 h2] at e
        exact h ⟨q, sgT_u hc e⟩
  · rw [kd_e q] at e; omega
/-- a number that stands there -/
theorem nu_0 {t : Nat → Int} {n b : Nat} (hb : b ≤ n) (h : ru dgB t n b = b) : kd t n b < 40 := by
  rcases Nat.lt_or_ge b n with q | q
  · have h2 : dgB (t b) = false := by
      have z := (ru_s (P := dgB) (t := t) hb).2.2.2
      rw [h] at z
      exact z q
    cases h1 : ltB (t b) with
    | true =>
      rw [kd_w q h1]
      rcases wk_c (t := t) (b := b) (e := ru ltB t n b) with ⟨w, w1, w2⟩ | w2
      · have := WT_c w w1; omega
      · omega
    | false =>
      rw [kd_s q h1 h2]
      unfold sgT
      (repeat' split) <;> omega
  · rw [kd_e q]; omega
theorem nu_d {t : Nat → Int} {n b : Nat} (hb : b ≤ n) (h : b < ru dgB t n b) : (5 < ru dgB t n b - b → kd t n b = 22) ∧ (ru dgB t n b - b ≤ 5 → kd t n b = 40 + nv t b (ru dgB t n b - b)) ∧ te t n b = ru dgB t n b := by
  obtain ⟨a1, a2, a3, a4⟩ := ru_s (P := dgB) (t := t) hb
  have h2 := a3 b (Nat.le_refl b) h
  have h1 := dg_lt h2
  refine ⟨fun z => ?_, fun z => ?_, te_d h1 h2⟩
  · rw [kd_d (by omega) h1 h2, if_pos z]
  · rw [kd_d (by omega) h1 h2, if_neg (by omega)]
theorem nv_s1 {t : Nat → Int} {b p : Nat} {v v1 : Int} (hb : b ≤ p) (h5 : p - b < 5) (h : v = nv t b (min (p - b) 5)) (e : v1 = 10 * v + t p - 48) : v1 = nv t b (min (p + 1 - b) 5) := by
  have m1 : min (p - b) 5 = p - b := by omega
  have m2 : min (p + 1 - b) 5 = (p - b) + 1 := by omega
  rw [m1] at h
  rw [m2]
  show v1 = nv t b (p - b) * 10 + t (b + (p - b)) - 48
  rw [show b + (p - b) = p by omega, ← h]
  omega
theorem nv_s2 {t : Nat → Int} {b p : Nat} {v : Int} (h5 : 5 ≤ p - b) (h : v = nv t b (min (p - b) 5)) : v = nv t b (min (p + 1 - b) 5) := by
  rw [show min (p + 1 - b) 5 = min (p - b) 5 by omega]
  exact h
theorem sw_ch {i j : Nat} (hi : i < 48) (hj : j < sLn i) : (((sBy i j &&& 255).toUInt32 % 65536).toInt32).toInt = (sW i).getD j 0 := by
  have h6 : j < 6 := by have := sLn_b hi; omega
  exact (by decide +kernel : ∀ i, i < 48 → ∀ j, j < 6 → j < sLn i → (((sBy i j &&& 255).toUInt32 % 65536).toInt32).toInt = (sW i).getD j 0) i hi j h6 hj
theorem iw_s {T : Nat → Int} {L : List Int} {b i n m : Nat} (h : ∀ j, j < i → T (b + j) = L.getD j 0) (hx : T n = L.getD m 0) (hn : n = b + i) (hm : m = i) : ∀ j, j < i + 1 → T (b + j) = L.getD j 0 := by
  intro j hj
  by_cases e : j = i
  · rw [e, ← hn, ← hm]; exact hx
  · exact h j (by omega)
theorem iw_n {T : Nat → Int} {L : List Int} {b e i n m : Nat} (hx : T n ≠ L.getD m 0) (hn : n = b + i) (hm : m = i) (hi : i < L.length) : ¬ wd L T b e := fun h => hx (by rw [hn, hm]; exact h.2 i hi)
theorem sC_f {i : Nat} (h : i < 10) : sC i < 10 := by
  revert i
  decide
theorem sC_e {i : Nat} (h : i < 10) : sC i = ((i : Nat) : Int) := by
  revert i
  decide
theorem kd_wc {t : Nat → Int} {n b : Nat} (hb : b ≤ n) (h : b < ru ltB t n b) : (∃ w ∈ WT, kd t n b = w.2) ∨ kd t n b = 22 := by
  obtain ⟨a1, a2, a3, a4⟩ := ru_s (P := ltB) (t := t) hb
  rw [kd_w (by omega) (a3 b (Nat.le_refl b) h)]
  exact wk_c
theorem pr_w0 {t : Nat → Int} {n b : Nat} (hb : b ≤ n) (h : b < ru ltB t n b) (hn : ∀ j, j < 10 → ¬ wd (sW j) t b (ru ltB t n b)) : ¬ (kd t n b < 10 ∨ 40 ≤ kd t n b) := by
  intro q
  rcases kd_wc hb h with ⟨w, w1, w2⟩ | w2
  · have c := WT_c w w1
    have k : kd t n b = sC (kd t n b).toNat := by rw [sC_e (by omega)]; omega
    exact pw_0 (i := (kd t n b).toNat) (by omega) (hn _ (by omega)) k
  · omega
theorem nv_h {t : Nat → Int} {b : Nat} : ∀ k : Nat, (∀ j, j < k → 48 ≤ t (b + j) ∧ t (b + j) ≤ 57) → nv t b k + 1 ≤ 10 ^ k
  | 0, _ => by
    show (0 : Int) + 1 ≤ 10 ^ 0
    decide
  | k + 1, h => by
    have a := nv_h k (fun j hj => h j (by omega))
    have c := h k (by omega)
    show nv t b k * 10 + t (b + k) - 48 + 1 ≤ 10 ^ (k + 1)
    rw [Int.pow_succ]
    omega
theorem kd_hi {t : Nat → Int} {n b : Nat} : kd t n b ≤ 100039 := by
  rcases Nat.lt_or_ge b n with q | q
  · cases h1 : ltB (t b) with
    | true =>
      rw [kd_w q h1]
      rcases wk_c (t := t) (b := b) (e := ru ltB t n b) with ⟨w, w1, w2⟩ | w2
      · have := WT_c w w1; omega
      · omega
    | false =>
      cases h2 : dgB (t b) with
      | true =>
        rw [kd_d q h1 h2]
        by_cases z : 5 < ru dgB t n b - b
        · rw [if_pos z]; omega
        · rw [if_neg z]
          have a := nv_h (t := t) (b := b) (ru dgB t n b - b) (fun j hj => dgB_e ((ru_s (P := dgB) (t := t) (show b ≤ n by omega)).2.2.1 (b + j) (by omega) (by omega)))
          have p5 : (10 : Int) ^ (ru dgB t n b - b) ≤ 100000 := by
            rcases (show ru dgB t n b - b = 0 ∨ ru dgB t n b - b = 1 ∨ ru dgB t n b - b = 2 ∨ ru dgB t n b - b = 3 ∨ ru dgB t n b - b = 4 ∨ ru dgB t n b - b = 5 by omega) with e | e | e | e | e | e <;> rw [e] <;> decide
          omega
      | false =>
        rw [kd_s q h1 h2]
        unfold sgT
        (repeat' split) <;> omega
  · rw [kd_e q]; omega
theorem pr_d0 {t : Nat → Int} {n b : Nat} (hb : b ≤ n) (h : ru ltB t n b = b) (h2 : ¬ (40 ≤ kd t n b ∧ kd t n b ≤ 40 + 99999)) : ¬ (kd t n b < 10 ∨ 40 ≤ kd t n b) := by
  have hh := kd_hi (t := t) (n := n) (b := b)
  have lo : 10 ≤ kd t n b := by
    rcases Nat.lt_or_ge b n with q | q
    · have h1 : ltB (t b) = false := by
        have z := (ru_s (P := ltB) (t := t) hb).2.2.2
        rw [h] at z
        exact z q
      cases h3 : dgB (t b) with
      | true =>
        rw [kd_d q h1 h3]
        by_cases z : 5 < ru dgB t n b - b
        · rw [if_pos z]; omega
        · rw [if_neg z]
          have := nv_b (t := t) (b := b) (ru dgB t n b - b) (fun j hj => dgB_e ((ru_s (P := dgB) (t := t) (show b ≤ n by omega)).2.2.1 (b + j) (by omega) (by omega)))
          omega
      | false =>
        rw [kd_s q h1 h3]
        unfold sgT
        (repeat' split) <;> omega
    · rw [kd_e q]; omega
  omega
def soL : List Nat := [14, 1, 15, 16, 17, 18, 19, 20, 21, 22]
theorem so_n {P : Nat → Prop} (h0 : ¬ P 14) (h1 : ¬ P 1) (h2 : ¬ P 15) (h3 : ¬ P 16) (h4 : ¬ P 17) (h5 : ¬ P 18) (h6 : ¬ P 19) (h7 : ¬ P 20) (h8 : ¬ P 21) (h9 : ¬ P 22) : ∀ i ∈ soL, ¬ P i := by
  intro i hi
  simp only [soL, List.mem_cons, List.not_mem_nil, or_false] at hi
  rcases hi with rfl | rfl | rfl | rfl | rfl | rfl | rfl | rfl | rfl | rfl <;> assumption
theorem kd_nw {t : Nat → Int} {n b : Nat} (hb : b ≤ n) (h : ru ltB t n b = b) : (10 ≤ kd t n b ∧ kd t n b < 30) ∨ 40 ≤ kd t n b := by
  rcases Nat.lt_or_ge b n with q | q
  · have h1 : ltB (t b) = false := by
      have z := (ru_s (P := ltB) (t := t) hb).2.2.2
      rw [h] at z
      exact z q
    cases h3 : dgB (t b) with
    | true =>
      rw [kd_d q h1 h3]
      by_cases z : 5 < ru dgB t n b - b
      · rw [if_pos z]; omega
      · rw [if_neg z]
        have := nv_b (t := t) (b := b) (ru dgB t n b - b) (fun j hj => dgB_e ((ru_s (P := dgB) (t := t) (show b ≤ n by omega)).2.2.1 (b + j) (by omega) (by omega)))
        omega
    | false =>
      rw [kd_s q h1 h3]
      unfold sgT
      (repeat' split) <;> omega
  · rw [kd_e q]; omega
theorem lkT_s (v : Int) : (v = 1 ∧ lkT v = 1) ∨ (v ≠ 1 ∧ (30 ≤ v ∧ v ≤ 39) ∧ lkT v = v - 30) ∨ (v ≠ 1 ∧ ¬ (30 ≤ v ∧ v ≤ 39) ∧ lkT v = -1) := by
  unfold lkT
  by_cases q : v = 1
  · exact Or.inl ⟨q, if_pos q⟩
  · rw [if_neg q]
    by_cases z : 30 ≤ v ∧ v ≤ 39
    · exact Or.inr (Or.inl ⟨q, z, if_pos z⟩)
    · exact Or.inr (Or.inr ⟨q, z, if_neg z⟩)
theorem WT_l : ∀ w ∈ WT, lkT w.2 = -1 ∨ ∃ i ∈ soL, w.2 = sC i := by decide +kernel
theorem soL_48 : ∀ i ∈ soL, i < 48 := by decide
/-- which sort the word from b to e names (a name of its own: omega takes an ∃ in the context apart, and fails) -/
def soQ (t : Nat → Int) (b e : Nat) (r : Int) : Prop := (r = -1 ∧ ∀ i ∈ soL, ¬ wd (sW i) t b e) ∨ ∃ i ∈ soL, wd (sW i) t b e ∧ r = lkT (sC i)
theorem so_k {t : Nat → Int} {n b : Nat} {r : Int} (hb : b ≤ n) (h : soQ t b (ru ltB t n b) r) : r = lkT (kd t n b) := by
  unfold soQ at h
  rcases h with ⟨h1, h2⟩ | ⟨i, h1, h2, h3⟩
  · rw [h1]
    obtain ⟨a1, a2, a3, a4⟩ := ru_s (P := ltB) (t := t) hb
    rcases Nat.lt_or_ge b (ru ltB t n b) with q | q
    · rcases kd_wc hb q with ⟨w, w1, w2⟩ | w2
      · rw [w2]
        rcases WT_l w w1 with z | ⟨i, z1, z2⟩
        · exact z.symm
        · exact absurd (w2.trans z2) (pw_0 (soL_48 i z1) (h2 i z1))
      · rw [w2]; decide
    · have := kd_nw (t := t) hb (by omega)
      have := lkT_s (kd t n b)
      omega
  · rw [h3, (pw_1 (soL_48 i h1) hb h2).1]
theorem lk_x {t : Nat → Int} {n b : Nat} (h : lkT (kd t n b) ≠ -1) : te t n b = ru ltB t n b := by
  have l := lkT_s (kd t n b)
  rcases Nat.lt_or_ge b n with q | q
  · cases h1 : ltB (t b) with
    | true => exact te_w h1
    | false =>
      have e : ru ltB t n b = b := ru_u (Nat.le_refl b) (by omega) (fun j a c => by omega) (fun _ => h1)
      have := kd_nw (t := t) (show b ≤ n by omega) e
      omega
  · have := kd_e (t := t) q
    omega
theorem nR_1 {K : Nat → Int} {X : Nat → Nat} {h h' r : Int} {b f : Nat} (e : h' = h) (q : (40 ≤ K b ∧ K b ≤ 40 + h' ∧ r = K b - 40 ∧ f = X b) ∨ (r = -1 ∧ ¬ (40 ≤ K b ∧ K b ≤ 40 + h'))) (hr : 0 ≤ r) : nR K X h b 1 f := by
  rcases q with ⟨q1, q2, q3, q4⟩ | ⟨q1, q2⟩
  · exact Or.inl ⟨⟨q1, by omega⟩, rfl, q4⟩
  · omega
theorem nR_0 {K : Nat → Int} {X : Nat → Nat} {h h' r : Int} {b f g : Nat} (e : h' = h) (q : (40 ≤ K b ∧ K b ≤ 40 + h' ∧ r = K b - 40 ∧ f = X b) ∨ (r = -1 ∧ ¬ (40 ≤ K b ∧ K b ≤ 40 + h'))) (hr : r < 0) (hg : b = g) : nR K X h b 0 g := by
  rcases q with ⟨q1, q2, q3, q4⟩ | ⟨q1, q2⟩
  · omega
  · exact Or.inr ⟨fun z => q2 ⟨z.1, by omega⟩, rfl, hg.symm⟩
theorem lw_s1 {K : Nat → Int} {X : Nat → Nat} {k b b1 : Nat} (hk : k < 20) (hl : lnR K X b 1 b1) (h : K b1 = 18) {c f : Int} (q : lwR K X (k + 1) (X b1) c f) : lwR K X k b c f := by
  obtain ⟨m, q⟩ := q
  exact ⟨m + 1, Or.inr ⟨hk, Or.inr ⟨b1, hl, Or.inl ⟨h, q⟩⟩⟩⟩
theorem lw_20 {K : Nat → Int} {X : Nat → Nat} {k b : Nat} (hk : 20 ≤ k) : lwR K X k b (-1) ((b : Nat) : Int) := ⟨1, Or.inl ⟨hk, rfl, rfl⟩⟩
theorem lw_n {K : Nat → Int} {X : Nat → Nat} {k b z : Nat} (hk : k < 20) (hl : lnR K X b 0 z) : lwR K X k b (-1) ((z : Nat) : Int) := ⟨1, Or.inr ⟨hk, Or.inl ⟨z, hl, rfl, rfl⟩⟩⟩
theorem lw_e {K : Nat → Int} {X : Nat → Nat} {k b b1 : Nat} {c : Int} (hk : k < 20) (hl : lnR K X b 1 b1) (h : K b1 = 21) (hc : c = ((k : Nat) : Int) + 1) : lwR K X k b c (-1) := ⟨1, Or.inr ⟨hk, Or.inr ⟨b1, hl, Or.inr (Or.inl ⟨h, hc, rfl⟩)⟩⟩⟩
theorem lw_w {K : Nat → Int} {X : Nat → Nat} {k b b1 : Nat} (hk : k < 20) (hl : lnR K X b 1 b1) (h : K b1 ≠ 18) (h2 : K b1 ≠ 21) : lwR K X k b (-1) ((b1 : Nat) : Int) := ⟨1, Or.inr ⟨hk, Or.inr ⟨b1, hl, Or.inr (Or.inr ⟨h, h2, rfl, rfl⟩)⟩⟩⟩
theorem nar_y {y z : Int32} (e : z = y.toInt8.toInt32) : narrow .byte (.int z) = .int z := by
  subst e
  show Value.int ((y.toInt8.toInt32).toInt8.toInt32) = Value.int (y.toInt8.toInt32)
  rw [Int8.toInt8_toInt32]
/-- bytes: as the reference keeps them, as the class does -/
def s8 (x : Int32) : Int32 := x.toInt8.toInt32
def sb (x s : Int32) : Int32 := (x >>> (s &&& 31)).toInt8.toInt32
def ub (x s : Int32) : Int32 := (x.toUInt32 >>> (s.toUInt32 &&& Int32.toUInt32 31)).toInt32 &&& 255
def f4S (V : Nat → Int32) (n : Nat) (x : Int32) : Nat → Int32 := cu (cu (cu (cu V n (sb x 24)) (n + 1) (sb x 16)) (n + 2) (sb x 8)) (n + 3) (sb x 0)
def f4U (V : Nat → Int32) (n : Nat) (x : Int32) : Nat → Int32 := cu (cu (cu (cu V n (ub x 24)) (n + 1) (ub x 16)) (n + 2) (ub x 8)) (n + 3) (ub x 0)
def fdS (V : Nat → Int32) (n : Nat) (a b c d e : Int32) : Nat → Int32 := f4S (f4S (f4S (f4S (f4S V n a) (n + 4) b) (n + 8) c) (n + 12) d) (n + 16) e
def fdU (V : Nat → Int32) (n : Nat) (a b c d e : Int32) : Nat → Int32 := f4U (f4U (f4U (f4U (f4U V n a) (n + 4) b) (n + 8) c) (n + 12) d) (n + 16) e
theorem s8_255 (x : Int32) : s8 (x &&& 255) = s8 x := by
  unfold s8
  congr 1
  apply Int8.toBitVec_inj.mp
  rw [Int32.toBitVec_toInt8, Int32.toBitVec_toInt8, Int32.toBitVec_and]
  apply BitVec.eq_of_getLsbD_eq
  intro i hi
  have h8 : ∀ i, i < 8 → (Int32.toBitVec 255).getLsbD i = true := by decide
  rw [BitVec.getLsbD_signExtend, BitVec.getLsbD_signExtend, if_pos (by omega), if_pos (by omega), BitVec.getLsbD_and, h8 i hi, Bool.and_true]
theorem s8_sh (x : Int32) (s : Int32) (h : s = 24 ∨ s = 16 ∨ s = 8 ∨ s = 0) : s8 ((x.toUInt32 >>> (s.toUInt32 &&& Int32.toUInt32 31)).toInt32) = sb x s := by
  unfold s8 sb
  congr 1
  apply Int8.toBitVec_inj.mp
  rw [Int32.toBitVec_toInt8, Int32.toBitVec_toInt8]
  apply BitVec.eq_of_getLsbD_eq
  intro i hi
  rw [BitVec.getLsbD_signExtend, BitVec.getLsbD_signExtend, if_pos (by omega), if_pos (by omega)]
  congr 1
  rw [Int32.toBitVec_shiftRight]
  show (x.toUInt32 >>> (s.toUInt32 &&& Int32.toUInt32 31)).toBitVec.getLsbD i = (x.toBitVec.sshiftRight ((s &&& 31).toBitVec.smod 32).toNat).getLsbD i
  rw [UInt32.toBitVec_shiftRight]
  show (x.toBitVec >>> (((s.toUInt32 &&& Int32.toUInt32 31).toBitVec % 32).toNat)).getLsbD i = _
  rw [BitVec.getLsbD_ushiftRight, BitVec.getLsbD_sshiftRight]
  have hi32 : i < 32 := by omega
  rcases h with rfl | rfl | rfl | rfl
  · rw [show (((24 : Int32).toUInt32 &&& Int32.toUInt32 31).toBitVec % 32).toNat = 24 from by decide, show (((24 : Int32) &&& 31).toBitVec.smod 32).toNat = 24 from by decide, if_pos (by omega)]; simp; omega
  · rw [show (((16 : Int32).toUInt32 &&& Int32.toUInt32 31).toBitVec % 32).toNat = 16 from by decide, show (((16 : Int32) &&& 31).toBitVec.smod 32).toNat = 16 from by decide, if_pos (by omega)]; simp; omega
  · rw [show (((8 : Int32).toUInt32 &&& Int32.toUInt32 31).toBitVec % 32).toNat = 8 from by decide, show (((8 : Int32) &&& 31).toBitVec.smod 32).toNat = 8 from by decide, if_pos (by omega)]; simp; omega
  · rw [show (((0 : Int32).toUInt32 &&& Int32.toUInt32 31).toBitVec % 32).toNat = 0 from by decide, show (((0 : Int32) &&& 31).toBitVec.smod 32).toNat = 0 from by decide, if_pos (by omega)]; simp; omega
theorem s8_ub {x s : Int32} (h : s = 24 ∨ s = 16 ∨ s = 8 ∨ s = 0) : s8 (ub x s) = sb x s := (s8_255 _).trans (s8_sh x s h)
theorem s8_cu {V : Nat → Int32} {n : Nat} {x y : Int32} (h : s8 x = y) : (fun k => s8 (cu V n x k)) = cu (fun k => s8 (V k)) n y := by
  funext k
  by_cases e : k = n
  · show s8 (cu V n x k) = _
    rw [cu_s e, cu_s e]; exact h
  · show s8 (cu V n x k) = _
    rw [cu_o e, cu_o e]
theorem s8_f4 (V : Nat → Int32) (n : Nat) (x : Int32) : (fun k => s8 (f4U V n x k)) = f4S (fun k => s8 (V k)) n x := by
  unfold f4U f4S
  rw [s8_cu (s8_ub (Or.inr (Or.inr (Or.inr rfl)))), s8_cu (s8_ub (Or.inr (Or.inr (Or.inl rfl)))), s8_cu (s8_ub (Or.inr (Or.inl rfl))), s8_cu (s8_ub (Or.inl rfl))]
theorem s8_fd (V : Nat → Int32) (n : Nat) (a b c d e : Int32) : (fun k => s8 (fdU V n a b c d e k)) = fdS (fun k => s8 (V k)) n a b c d e := by
  unfold fdU fdS
  rw [s8_f4, s8_f4, s8_f4, s8_f4, s8_f4]
theorem s8_s {x : Int32} (h0 : 0 ≤ x.toInt) (h1 : x.toInt ≤ 255) : (x.toInt < 128 ∧ (s8 x).toInt = x.toInt) ∨ (128 ≤ x.toInt ∧ (s8 x).toInt = x.toInt - 256) := by
  have e : (s8 x).toInt = x.toInt.bmod 256 := lg_i2b_toInt x
  rw [e]
  rcases Int.lt_or_le x.toInt 128 with q | q
  · exact Or.inl ⟨q, Int.bmod_eq_of_le (by omega) (by omega)⟩
  · refine Or.inr ⟨q, ?_⟩
    unfold Int.bmod
    have z : x.toInt % ((256 : Nat) : Int) = x.toInt := Int.emod_eq_of_lt h0 (by omega)
    simp only [z]
    rw [if_neg (by omega)]
    omega
/-- the class's text -/
def tc (V : Nat → Int32) : Nat → Int := tx (fun k => s8 (V k))
theorem tc_s {V : Nat → Int32} {n : Nat} {x : Int32} (e : x = V n) (h0 : 0 ≤ x.toInt) (h1 : x.toInt ≤ 255) : (x.toInt < 128 ∧ tc V n = x.toInt) ∨ (128 ≤ x.toInt ∧ tc V n = x.toInt - 256) := by
  have q := s8_s h0 h1
  have z : tc V n = (s8 x).toInt := by rw [e]; rfl
  rw [z]
  exact q
theorem te_x {t : Nat → Int} {n b r : Nat} {w d : Int} (hb : b < n) (hw : (w = 1 ∧ ltB (t b) = true) ∨ (w = 0 ∧ ltB (t b) = false)) (hd : (d = 1 ∧ dgB (t b) = true) ∨ (d = 0 ∧ dgB (t b) = false)) (h1 : b + 1 ≤ r) (h2 : r ≤ n) (hl : w = 1 → ∀ j, b ≤ j → j < r → ltB (t j) = true) (hg : d = 1 → ∀ j, b ≤ j → j < r → dgB (t j) = true) (hn : w = 0 → d = 0 → r = b + 1) (he : r < n → (w = 1 → ltB (t r) = false) ∧ (d = 1 → dgB (t r) = false)) : r = te t n b := by
  rcases hw with ⟨w1, w2⟩ | ⟨w1, w2⟩
  · rw [te_w w2]
    exact (ru_u (by omega) h2 (hl w1) (fun h => (he h).1 w1)).symm
  · rcases hd with ⟨d1, d2⟩ | ⟨d1, d2⟩
    · rw [te_d w2 d2]
      exact (ru_u (by omega) h2 (hg d1) (fun h => (he h).2 d1)).symm
    · rw [te_s w2 d2]
      exact hn w1 d1
theorem sgT_n (v : Int) : v = 43 ∨ v = 60 ∨ v = 62 ∨ v = 40 ∨ v = 41 ∨ v = 59 ∨ sgT v = 22 := by
  unfold sgT
  (repeat' split) <;> omega
theorem sgT_o {v : Int} (h : v < 0 ∨ 128 ≤ v) : sgT v = 22 := by
  have := sgT_n v
  omega
theorem sW_b {i j : Nat} (h : i < 48) : 0 ≤ (sW i).getD j 0 ∧ (sW i).getD j 0 ≤ 122 := by
  rcases Nat.lt_or_ge j 6 with q | q
  · exact (by decide +kernel : ∀ i, i < 48 → ∀ j, j < 6 → 0 ≤ (sW i).getD j 0 ∧ (sW i).getD j 0 ≤ 122) i h j q
  · have l1 := sW_l h
    have l2 := sLn_b h
    rw [List.getD_eq_getElem?_getD, List.getElem?_eq_none (by omega)]
    decide
theorem sC_p {i : Nat} (h : i < 48) : 0 ≤ sC i := by
  revert i
  decide
theorem WT_i : ∀ w ∈ WT, ∃ i, (24 ≤ i ∧ i < 48) ∧ w.1 = sW i := by
  intro w hw
  have z : ∀ w ∈ WT, ∃ i ∈ List.range 48, 24 ≤ i ∧ w.1 = sW i := by decide +kernel
  obtain ⟨i, h1, h2, h3⟩ := z w hw
  exact ⟨i, ⟨h2, List.mem_range.mp h1⟩, h3⟩
theorem wk_n {t : Nat → Int} {b e : Nat} (h : ∀ i, 24 ≤ i → i < 48 → ¬ wd (sW i) t b e) : wk t b e = 22 := wk_0 (fun w hw z => by
  obtain ⟨i, h1, h2⟩ := WT_i w hw
  rw [h2] at z
  exact h i h1.1 h1.2 z)
/-- where the things of a text begin, one behind another -/
def psn (t : Nat → Int) (n : Nat) : Nat → Nat
  | 0 => skp t n 0
  | k + 1 => xn t n (psn t n k)
theorem skp_n {t : Nat → Int} {n : Nat} : skp t n n = n := ru_u (Nat.le_refl n) (Nat.le_refl n) (fun j a b => by omega) (fun h => by omega)
theorem skp_i {t : Nat → Int} {n p : Nat} (h : p < n) (h1 : t p ≠ 32) : skp t n p = p := ru_u (Nat.le_refl p) (by omega) (fun j a b => by omega) (fun _ => spB_0 h1)
theorem skp_s {t : Nat → Int} {n p : Nat} (h : p < n) (h1 : t p = 32) : skp t n p = skp t n (p + 1) := by
  obtain ⟨a1, a2, a3, a4⟩ := ru_s (P := spB) (t := t) (show p + 1 ≤ n by omega)
  show ru spB t n p = ru spB t n (p + 1)
  exact ru_u (by omega) a2 (fun j b1 b2 => by
    by_cases e : j = p
    · rw [e]; exact spB_1 h1
    · exact a3 j (by omega) b2) a4
/-! GHOST=Z: the grammar with the code that it brings, and what the code says -/
abbrev zP9 : Type := Nat → List Int → Nat → Prop
def zU (P : zP9) : Prop := ∀ (b : Nat) (L : List Int) (f : Nat) (L1 : List Int) (f1 : Nat), P b L f → P b L1 f1 → L = L1 ∧ f = f1
def zpZ (K : Nat → Int) (X : Nat → Nat) : zP9 := fun b L f => (K b < 10 ∨ 40 ≤ K b) ∧ L = [K b] ∧ f = X b
def zlF (K : Nat → Int) (X : Nat → Nat) (P : zP9) (c : Int) : Nat → zP9
  | 0 => P
  | m + 1 => fun b L f => ∃ (L1 : List Int) (b1 : Nat) (L2 : List Int), zlF K X P c m b L1 b1 ∧ K b1 = c ∧ P (X b1) L2 f ∧ L = L1 ++ L2 ++ [c]
/-- so many parts, each joined by c -/
def zlI (K : Nat → Int) (X : Nat → Nat) (P : zP9) (c : Int) : zP9 := fun b L f => ∃ m, zlF K X P c m b L f
/-- all of them: c doesn't go on -/
def zlZ (K : Nat → Int) (X : Nat → Nat) (P : zP9) (c : Int) : zP9 := fun b L f => zlI K X P c b L f ∧ K f ≠ c
theorem zlI_0 {K : Nat → Int} {X : Nat → Nat} {P : zP9} {c : Int} {b f : Nat} {L : List Int} (h : P b L f) : zlI K X P c b L f := ⟨0, h⟩
theorem zlI_s {K : Nat → Int} {X : Nat → Nat} {P : zP9} {c : Int} {b b1 f : Nat} {L1 L2 : List Int} (h : zlI K X P c b L1 b1) (hk : K b1 = c) (hp : P (X b1) L2 f) : zlI K X P c b (L1 ++ L2 ++ [c]) f := by
  obtain ⟨m, h⟩ := h
  exact ⟨m + 1, L1, b1, L2, h, hk, hp, rfl⟩
theorem zpZ_u {K : Nat → Int} {X : Nat → Nat} : zU (zpZ K X) := by
  intro b L f L1 f1 h g
  exact ⟨h.2.1.trans g.2.1.symm, h.2.2.trans g.2.2.symm⟩
theorem zlF_u {K : Nat → Int} {X : Nat → Nat} {P : zP9} {c : Int} (hP : zU P) : ∀ m, zU (zlF K X P c m) := by
  intro m
  induction m with
  | zero => exact hP
  | succ m ih =>
    intro b L f L1 f1 h g
    obtain ⟨A1, b1, A2, h1, h2, h3, rfl⟩ := h
    obtain ⟨B1, b2, B2, g1, g2, g3, rfl⟩ := g
    obtain ⟨rfl, rfl⟩ := ih _ _ _ _ _ h1 g1
    obtain ⟨rfl, rfl⟩ := hP _ _ _ _ _ h3 g3
    exact ⟨rfl, rfl⟩
theorem zlF_d {K : Nat → Int} {X : Nat → Nat} {P : zP9} {c : Int} (m : Nat) : ∀ (k b : Nat) (L : List Int) (f : Nat), zlF K X P c (m + k + 1) b L f → ∃ L1 b1, zlF K X P c m b L1 b1 ∧ K b1 = c := by
  intro k
  induction k with
  | zero =>
    intro b L f h
    obtain ⟨L1, b1, L2, h1, h2, -, -⟩ := h
    exact ⟨L1, b1, h1, h2⟩
  | succ k ih =>
    intro b L f h
    obtain ⟨L1, b1, L2, h1, -, -, -⟩ := h
    exact ih b L1 b1 h1
theorem zl_u {K : Nat → Int} {X : Nat → Nat} {P : zP9} {c : Int} (hP : zU P) : zU (zlZ K X P c) := by
  intro b L f L1 f1 ⟨⟨m, h⟩, hf⟩ ⟨⟨m1, g⟩, gf⟩
  rcases Nat.lt_trichotomy m m1 with q | q | q
  · obtain ⟨k, rfl⟩ : ∃ k, m1 = m + k + 1 := ⟨m1 - m - 1, by omega⟩
    obtain ⟨A, b1, a1, a2⟩ := zlF_d m k _ _ _ g
    have e := (zlF_u hP m _ _ _ _ _ h a1).2
    exact absurd (by rw [e]; exact a2) hf
  · subst q
    exact zlF_u hP m _ _ _ _ _ h g
  · obtain ⟨k, rfl⟩ : ∃ k, m = m1 + k + 1 := ⟨m - m1 - 1, by omega⟩
    obtain ⟨A, b1, a1, a2⟩ := zlF_d m1 k _ _ _ h
    have e := (zlF_u hP m1 _ _ _ _ _ g a1).2
    exact absurd (by rw [e]; exact a2) gf
def zsZ (K : Nat → Int) (X : Nat → Nat) : zP9 := zlZ K X (zpZ K X) 10
def zcZ (K : Nat → Int) (X : Nat → Nat) : zP9 := fun b L f => ∃ (L1 : List Int) (b1 : Nat) (L2 : List Int), zsZ K X b L1 b1 ∧ (K b1 = 11 ∨ K b1 = 12) ∧ zsZ K X (X b1) L2 f ∧ L = L1 ++ L2 ++ [K b1]
def zoZ (K : Nat → Int) (X : Nat → Nat) (P : zP9) : zP9 := zlZ K X (zlZ K X P 14) 15
def zaZ (K : Nat → Int) (X : Nat → Nat) : Nat → zP9
  | 0 => fun b L f => ¬ (K b = 16 ∨ K b = 13) ∧ zcZ K X b L f
  | d + 1 => fun b L f => (K b = 13 ∧ ∃ L1, zaZ K X d (X b) L1 f ∧ L = L1 ++ [13]) ∨ (K b = 16 ∧ ∃ b1, zoZ K X (zaZ K X d) (X b) L b1 ∧ K b1 = 17 ∧ f = X b1) ∨ (¬ (K b = 16 ∨ K b = 13) ∧ zcZ K X b L f)
def zfZ (K : Nat → Int) (X : Nat → Nat) : zP9 := fun b L f => (K b ≠ 19 ∧ L = [] ∧ f = b) ∨ (K b = 19 ∧ zoZ K X (zaZ K X 6) (X b) L f)
theorem zcZ_u {K : Nat → Int} {X : Nat → Nat} : zU (zcZ K X) := by
  intro b L f L1 f1 h g
  obtain ⟨A1, b1, A2, h1, h2, h3, rfl⟩ := h
  obtain ⟨B1, b2, B2, g1, g2, g3, rfl⟩ := g
  obtain ⟨rfl, rfl⟩ := zl_u zpZ_u _ _ _ _ _ h1 g1
  obtain ⟨rfl, rfl⟩ := zl_u zpZ_u _ _ _ _ _ h3 g3
  exact ⟨rfl, rfl⟩
theorem zaZ_u {K : Nat → Int} {X : Nat → Nat} : ∀ d : Nat, zU (zaZ K X d) := by
  intro d
  induction d with
  | zero =>
    intro b L f L1 f1 h g
    exact zcZ_u _ _ _ _ _ h.2 g.2
  | succ d ih =>
    intro b L f L1 f1 h g
    rcases h with ⟨h0, A, h1, h2⟩ | ⟨h0, b1, h1, h2, h3⟩ | ⟨h0, h1⟩ <;> rcases g with ⟨g0, B, g1, g2⟩ | ⟨g0, b2, g1, g2, g3⟩ | ⟨g0, g1⟩
    · obtain ⟨rfl, rfl⟩ := ih _ _ _ _ _ h1 g1
      exact ⟨h2.trans g2.symm, rfl⟩
    · exfalso; omega
    · exact absurd (Or.inr h0) g0
    · exfalso; omega
    · obtain ⟨rfl, rfl⟩ := zl_u (zl_u ih) _ _ _ _ _ h1 g1
      exact ⟨rfl, h3.trans g3.symm⟩
    · exact absurd (Or.inl h0) g0
    · exact absurd (Or.inr g0) h0
    · exact absurd (Or.inl g0) h0
    · exact zcZ_u _ _ _ _ _ h1 g1
theorem zfZ_u {K : Nat → Int} {X : Nat → Nat} : zU (zfZ K X) := by
  intro b L f L1 f1 h g
  rcases h with ⟨h0, h1, h2⟩ | ⟨h0, h1⟩ <;> rcases g with ⟨g0, g1, g2⟩ | ⟨g0, g1⟩
  · exact ⟨h1.trans g1.symm, h2.trans g2.symm⟩
  · exact absurd g0 h0
  · exact absurd h0 g0
  · exact zl_u (zl_u (zaZ_u 6)) _ _ _ _ _ h1 g1
/-- a line: its kind, and the code of what it asks for -/
def znZ (K : Nat → Int) (X : Nat → Nat) (b : Nat) (e : Int × List Int) (f : Nat) : Prop := e.1 = lkT (K b) ∧ ((lkT (K b) = 7 ∧ lvR K X (X b) 1 f ∧ e.2 = []) ∨ (lkT (K b) = 8 ∧ nR K X 100 (X b) 1 f ∧ e.2 = []) ∨ (lkT (K b) = 9 ∧ nR K X 18 (X b) 1 f ∧ e.2 = []) ∨ ((lkT (K b) = 5 ∨ lkT (K b) = 6) ∧ zfZ K X (X b) e.2 f) ∨ ((0 ≤ lkT (K b) ∧ lkT (K b) ≤ 4) ∧ ∃ b1, nR K X 99999 (X b) 1 b1 ∧ zfZ K X b1 e.2 f))
theorem znZ_u {K : Nat → Int} {X : Nat → Nat} {b : Nat} {e e1 : Int × List Int} {f f1 : Nat} (h : znZ K X b e f) (g : znZ K X b e1 f1) : e = e1 ∧ f = f1 := by
  obtain ⟨k, L⟩ := e
  obtain ⟨k1, L1⟩ := e1
  have u7 : gU1 (lvR K X) := sq_u nR_u (sq_u nR_u (sq_u tR_u (sq_u nR_u nR_u)))
  obtain ⟨h0, h⟩ := h
  obtain ⟨g0, g⟩ := g
  have ek : k = k1 := h0.trans g0.symm
  subst ek
  have z : L = L1 ∧ f = f1 := by
    rcases h with ⟨a0, a1, a2⟩ | ⟨a0, a1, a2⟩ | ⟨a0, a1, a2⟩ | ⟨a0, a1⟩ | ⟨a0, b1, a1, a2⟩ <;> rcases g with ⟨c0, c1, c2⟩ | ⟨c0, c1, c2⟩ | ⟨c0, c1, c2⟩ | ⟨c0, c1⟩ | ⟨c0, b2, c1, c2⟩ <;> first
      | (exfalso; omega)
      | exact ⟨a2.trans c2.symm, (u7 _ _ _ _ _ a1 c1).2⟩
      | exact ⟨a2.trans c2.symm, (nR_u _ _ _ _ _ a1 c1).2⟩
      | exact zfZ_u _ _ _ _ _ a1 c1
      | (obtain ⟨-, rfl⟩ := nR_u _ _ _ _ _ a1 c1; exact zfZ_u _ _ _ _ _ a2 c2)
  exact ⟨by rw [z.1], z.2⟩
abbrev zAl : Type := List (Int × List Int)
def zwF (K : Nat → Int) (X : Nat → Nat) : Nat → Nat → zAl → Nat → Prop
  | 0 => fun b A f => A = [] ∧ f = b
  | m + 1 => fun b A f => ∃ (A1 : zAl) (b1 : Nat) (e : Int × List Int) (b2 : Nat), zwF K X m b A1 b1 ∧ znZ K X b1 e b2 ∧ K b2 = 18 ∧ A = A1 ++ [e] ∧ f = X b2
/-- so many lines, each with its ; -/
def zwI (K : Nat → Int) (X : Nat → Nat) (b : Nat) (A : zAl) (f : Nat) : Prop := ∃ m, zwF K X m b A f
theorem zwI_0 {K : Nat → Int} {X : Nat → Nat} {b : Nat} : zwI K X b [] b := ⟨0, rfl, rfl⟩
theorem zwI_s {K : Nat → Int} {X : Nat → Nat} {b b1 b2 : Nat} {A : zAl} {e : Int × List Int} (h : zwI K X b A b1) (hn : znZ K X b1 e b2) (hk : K b2 = 18) : zwI K X b (A ++ [e]) (X b2) := by
  obtain ⟨m, h⟩ := h
  exact ⟨m + 1, A, b1, e, b2, h, hn, hk, rfl, rfl⟩
theorem zwF_u {K : Nat → Int} {X : Nat → Nat} : ∀ (m b : Nat) (A : zAl) (f : Nat) (A1 : zAl) (f1 : Nat), zwF K X m b A f → zwF K X m b A1 f1 → A = A1 ∧ f = f1 := by
  intro m
  induction m with
  | zero =>
    intro b A f A1 f1 h g
    exact ⟨h.1.trans g.1.symm, h.2.trans g.2.symm⟩
  | succ m ih =>
    intro b A f A1 f1 h g
    obtain ⟨B1, b1, e, b2, h1, h2, h3, rfl, rfl⟩ := h
    obtain ⟨C1, c1, d, c2, g1, g2, g3, rfl, rfl⟩ := g
    obtain ⟨rfl, rfl⟩ := ih _ _ _ _ _ h1 g1
    obtain ⟨rfl, rfl⟩ := znZ_u h2 g2
    exact ⟨rfl, rfl⟩
theorem zwF_d {K : Nat → Int} {X : Nat → Nat} (m : Nat) : ∀ (k b : Nat) (A : zAl) (f : Nat), zwF K X (m + k + 1) b A f → ∃ A1 b1 e b2, zwF K X m b A1 b1 ∧ znZ K X b1 e b2 ∧ K b2 = 18 := by
  intro k
  induction k with
  | zero =>
    intro b A f h
    obtain ⟨A1, b1, e, b2, h1, h2, h3, -, -⟩ := h
    exact ⟨A1, b1, e, b2, h1, h2, h3⟩
  | succ k ih =>
    intro b A f h
    obtain ⟨A1, b1, e, b2, h1, -, -, -, -⟩ := h
    exact ih b A1 b1 h1
/-- the whole text: its lines -/
def zqZ (t : Nat → Int) (n : Nat) (A : zAl) : Prop := (skp t n 0 = n ∧ A = []) ∨ (skp t n 0 ≠ n ∧ ∃ (A1 : zAl) (b1 : Nat) (e : Int × List Int) (b2 : Nat), zwI (kd t n) (xn t n) (skp t n 0) A1 b1 ∧ znZ (kd t n) (xn t n) b1 e b2 ∧ kd t n b2 = 21 ∧ A = A1 ++ [e])
theorem zqZ_u {t : Nat → Int} {n : Nat} {A B : zAl} (h : zqZ t n A) (g : zqZ t n B) : A = B := by
  rcases h with ⟨h0, h1⟩ | ⟨h0, A1, b1, e, b2, ⟨m, h1⟩, h2, h3, h4⟩ <;> rcases g with ⟨g0, g1⟩ | ⟨g0, B1, c1, d, c2, ⟨m1, g1⟩, g2, g3, g4⟩
  · exact h1.trans g1.symm
  · exact absurd h0 g0
  · exact absurd g0 h0
  · rcases Nat.lt_trichotomy m m1 with q | q | q
    · obtain ⟨k, rfl⟩ : ∃ k, m1 = m + k + 1 := ⟨m1 - m - 1, by omega⟩
      obtain ⟨Z, z1, y, z2, w1, w2, w3⟩ := zwF_d m k _ _ _ g1
      obtain ⟨rfl, rfl⟩ := zwF_u _ _ _ _ _ _ h1 w1
      obtain ⟨rfl, rfl⟩ := znZ_u h2 w2
      omega
    · subst q
      obtain ⟨rfl, rfl⟩ := zwF_u _ _ _ _ _ _ h1 g1
      obtain ⟨rfl, rfl⟩ := znZ_u h2 g2
      exact h4.trans g4.symm
    · obtain ⟨k, rfl⟩ : ∃ k, m = m1 + k + 1 := ⟨m - m1 - 1, by omega⟩
      obtain ⟨Z, z1, y, z2, w1, w2, w3⟩ := zwF_d m1 k _ _ _ h1
      obtain ⟨rfl, rfl⟩ := zwF_u _ _ _ _ _ _ g1 w1
      obtain ⟨rfl, rfl⟩ := znZ_u g2 w2
      omega
noncomputable def zlA (t : Nat → Int) (n : Nat) : zAl := Classical.epsilon (fun A : zAl => zqZ t n A)
theorem zlA_s {t : Nat → Int} {n : Nat} {A : zAl} (h : zqZ t n A) : A = zlA t n := zqZ_u h (Classical.epsilon_spec (p := fun A : zAl => zqZ t n A) ⟨A, h⟩)
/-- the code that stands from a place on -/
def zls (V : Nat → Int) : Nat → Nat → List Int
  | 0, _ => []
  | n + 1, a => V a :: zls V n (a + 1)
theorem zls_c {V W : Nat → Int} : ∀ (n a : Nat), (∀ j, a ≤ j → j < a + n → V j = W j) → zls V n a = zls W n a := by
  intro n
  induction n with
  | zero => intro a _; rfl
  | succ n ih =>
    intro a h
    show V a :: zls V n (a + 1) = W a :: zls W n (a + 1)
    rw [h a (by omega) (by omega), ih (a + 1) (fun j h1 h2 => h j (by omega) (by omega))]
theorem zls_app {V : Nat → Int} : ∀ (m n a : Nat), zls V (m + n) a = zls V m a ++ zls V n (a + m) := by
  intro m
  induction m with
  | zero =>
    intro n a
    rw [Nat.zero_add]
    rfl
  | succ m ih =>
    intro n a
    rw [show m + 1 + n = (m + n) + 1 by omega]
    show V a :: zls V (m + n) (a + 1) = V a :: (zls V m (a + 1) ++ zls V n (a + (m + 1)))
    rw [ih n (a + 1), show a + 1 + m = a + (m + 1) by omega]
theorem zls_1 {V : Nat → Int} {a n : Nat} (h : n = 1) : zls V n a = [V a] := by rw [h]; rfl
theorem zls_0 {V : Nat → Int} {a n : Nat} (h : n = 0) : zls V n a = [] := by rw [h]; rfl
/-- the code between two places -/
def zC (V : Nat → Int) (s s1 : Nat) : List Int := zls V (s1 - s) s
theorem zC_0 {V : Nat → Int} {s : Nat} : zC V s s = [] := zls_0 (by omega)
theorem zC_one {V : Nat → Int} {s s1 : Nat} {c : Int} (h : s1 = s + 1) (e : V s = c) : zC V s s1 = [c] := by
  unfold zC
  rw [zls_1 (by omega), e]
theorem zC_app {V V1 : Nat → Int} {s s1 s2 : Nat} (h1 : s ≤ s1) (h2 : s1 ≤ s2) (e : ∀ j, j < s1 → V1 j = V j) : zC V1 s s2 = zC V s s1 ++ zC V1 s1 s2 := by
  unfold zC
  rw [show s2 - s = (s1 - s) + (s2 - s1) by omega, zls_app, show s + (s1 - s) = s1 by omega, zls_c (s1 - s) s (fun j a b => e j (by omega))]
theorem zC_c {V V1 : Nat → Int} {s s1 : Nat} (e : ∀ j, j < s1 → V1 j = V j) : zC V1 s s1 = zC V s s1 := by
  unfold zC
  exact zls_c _ _ (fun j a b => e j (by omega))
/-- the code, run over a stack (its top first) -/
def zjn (c : Int) (a b : Int64) : Int64 := if c = 10 then a + b else if c = 11 then (if a.toInt < b.toInt then 1 else 0) else if c = 12 then (if b.toInt < a.toInt then 1 else 0) else if c = 14 then a * b else if b < a then a else b
def zst (f : Nat → Int64) (c : Int) (u : List Int64) : List Int64 := if c < 10 then f c.toNat :: u else if 40 ≤ c then Int64.ofInt (c - 40) :: u else if c = 13 then (match u with
  | a :: r => (1 - a) :: r
  | [] => []) else (match u with
  | b :: a :: r => zjn c a b :: r
  | _ => u)
def zrn (f : Nat → Int64) : List Int → List Int64 → List Int64
  | [], u => u
  | c :: L, u => zrn f L (zst f c u)
theorem zrn_app (f : Nat → Int64) : ∀ (L M : List Int) (u : List Int64), zrn f (L ++ M) u = zrn f M (zrn f L u) := by
  intro L
  induction L with
  | nil => intro M u; rfl
  | cons c L ih => intro M u; exact ih M (zst f c u)
theorem zst_f {f : Nat → Int64} {c : Int} {u : List Int64} (h : c < 10) : zst f c u = f c.toNat :: u := if_pos h
theorem zst_n {f : Nat → Int64} {c : Int} {u : List Int64} (h : 40 ≤ c) : zst f c u = Int64.ofInt (c - 40) :: u := by
  unfold zst
  rw [if_neg (by omega), if_pos h]
theorem zst_t {f : Nat → Int64} {c : Int} {a : Int64} {r : List Int64} (h : c = 13) : zst f c (a :: r) = (1 - a) :: r := by
  unfold zst
  rw [if_neg (by omega), if_neg (by omega), if_pos h]
theorem zst_j {f : Nat → Int64} {c : Int} {a b : Int64} {r : List Int64} (h : 10 ≤ c) (h1 : c ≤ 15) (h2 : c ≠ 13) : zst f c (b :: a :: r) = zjn c a b :: r := by
  unfold zst
  rw [if_neg (by omega), if_neg (by omega), if_neg h2]
/-- how deep the stack is; none, where something is wanting, or more than twenty -/
def zgd : List Int → Nat → Option Nat
  | [], n => some n
  | c :: L, n => if (c < 10 ∨ 40 ≤ c) ∧ n < 20 then zgd L (n + 1) else if c = 13 ∧ 1 ≤ n then zgd L n else if (10 ≤ c ∧ c ≤ 15) ∧ c ≠ 13 ∧ 2 ≤ n then zgd L (n - 1) else none
theorem zgd_app : ∀ (L M : List Int) (n : Nat), zgd (L ++ M) n = (zgd L n).bind (fun m => zgd M m) := by
  intro L
  induction L with
  | nil => intro M n; rfl
  | cons c L ih =>
    intro M n
    show (if (c < 10 ∨ 40 ≤ c) ∧ n < 20 then zgd (L ++ M) (n + 1) else if c = 13 ∧ 1 ≤ n then zgd (L ++ M) n else if (10 ≤ c ∧ c ≤ 15) ∧ c ≠ 13 ∧ 2 ≤ n then zgd (L ++ M) (n - 1) else none) = Option.bind (if (c < 10 ∨ 40 ≤ c) ∧ n < 20 then zgd L (n + 1) else if c = 13 ∧ 1 ≤ n then zgd L n else if (10 ≤ c ∧ c ≤ 15) ∧ c ≠ 13 ∧ 2 ≤ n then zgd L (n - 1) else none) (fun m => zgd M m)
    by_cases h1 : (c < 10 ∨ 40 ≤ c) ∧ n < 20
    · rw [if_pos h1, if_pos h1]; exact ih M (n + 1)
    · rw [if_neg h1, if_neg h1]
      by_cases h2 : c = 13 ∧ 1 ≤ n
      · rw [if_pos h2, if_pos h2]; exact ih M n
      · rw [if_neg h2, if_neg h2]
        by_cases h3 : (10 ≤ c ∧ c ≤ 15) ∧ c ≠ 13 ∧ 2 ≤ n
        · rw [if_pos h3, if_pos h3]; exact ih M (n - 1)
        · rw [if_neg h3, if_neg h3]; rfl
theorem zgd_s {L M : List Int} {n m k : Nat} (h1 : zgd L n = some m) (h2 : zgd M m = some k) : zgd (L ++ M) n = some k := by
  rw [zgd_app, h1]
  exact h2
theorem zgd_p {c : Int} {n : Nat} (h : c < 10 ∨ 40 ≤ c) (hn : n < 20) : zgd [c] n = some (n + 1) := if_pos ⟨h, hn⟩
theorem zgd_t {n : Nat} (hn : 1 ≤ n) : zgd [13] n = some n := by
  unfold zgd
  rw [if_neg (by omega), if_pos ⟨rfl, hn⟩]
  rfl
theorem zgd_j {c : Int} {n : Nat} (h : 10 ≤ c ∧ c ≤ 15) (h2 : c ≠ 13) (hn : 2 ≤ n) : zgd [c] n = some (n - 1) := by
  unfold zgd
  rw [if_neg (by omega), if_neg (by omega), if_pos ⟨h, h2, hn⟩]
  rfl
/-- what the code of a part does: one more number, and so much room; B: of the two truths -/
def zD (P : zP9) (k : Nat) : Prop := ∀ (b : Nat) (L : List Int) (g : Nat), P b L g → ∀ n, n + k ≤ 20 → zgd L n = some (n + 1)
def zV (P : zP9) : Prop := ∀ (b : Nat) (L : List Int) (g : Nat), P b L g → ∀ (f : Nat → Int64) (u : List Int64), ∃ v : Int64, zrn f L u = v :: u
def zB (P : zP9) : Prop := ∀ (b : Nat) (L : List Int) (g : Nat), P b L g → ∀ (f : Nat → Int64) (u : List Int64), ∃ v : Int64, (v = 0 ∨ v = 1) ∧ zrn f L u = v :: u
theorem zD_p {K : Nat → Int} {X : Nat → Nat} : zD (zpZ K X) 1 := by
  intro b L g h n hn
  rw [h.2.1]
  exact zgd_p h.1 (by omega)
theorem zV_p {K : Nat → Int} {X : Nat → Nat} : zV (zpZ K X) := by
  intro b L g h f u
  rw [h.2.1]
  rcases h.1 with q | q
  · exact ⟨_, zst_f q⟩
  · exact ⟨_, zst_n q⟩
theorem zD_F {K : Nat → Int} {X : Nat → Nat} {P : zP9} {c : Int} {k : Nat} (hP : zD P k) (hc : 10 ≤ c ∧ c ≤ 15) (h2 : c ≠ 13) (hk : 1 ≤ k) : ∀ (m b : Nat) (L : List Int) (g : Nat), zlF K X P c m b L g → ∀ n, n + (k + 1) ≤ 20 → zgd L n = some (n + 1) := by
  intro m
  induction m with
  | zero => intro b L g h n hn; exact hP b L g h n (by omega)
  | succ m ih =>
    intro b L g h n hn
    obtain ⟨L1, b1, L2, h1, -, h3, rfl⟩ := h
    exact zgd_s (zgd_s (ih _ _ _ h1 n hn) (hP _ _ _ h3 (n + 1) (by omega))) (zgd_j hc h2 (by omega))
theorem zD_l {K : Nat → Int} {X : Nat → Nat} {P : zP9} {c : Int} {k : Nat} (hP : zD P k) (hc : 10 ≤ c ∧ c ≤ 15) (h2 : c ≠ 13) (hk : 1 ≤ k) : zD (zlZ K X P c) (k + 1) := by
  intro b L g ⟨⟨m, h⟩, _⟩ n hn
  exact zD_F hP hc h2 hk m b L g h n hn
theorem zV_F {K : Nat → Int} {X : Nat → Nat} {P : zP9} {c : Int} (hP : zV P) (hc : 10 ≤ c ∧ c ≤ 15) (h2 : c ≠ 13) : ∀ (m b : Nat) (L : List Int) (g : Nat), zlF K X P c m b L g → ∀ (f : Nat → Int64) (u : List Int64), ∃ v : Int64, zrn f L u = v :: u := by
  intro m
  induction m with
  | zero => exact hP
  | succ m ih =>
    intro b L g h f u
    obtain ⟨L1, b1, L2, h1, -, h3, rfl⟩ := h
    obtain ⟨v1, e1⟩ := ih _ _ _ h1 f u
    obtain ⟨v2, e2⟩ := hP _ _ _ h3 f (v1 :: u)
    refine ⟨zjn c v1 v2, ?_⟩
    rw [zrn_app, zrn_app, e1, e2]
    exact zst_j hc.1 hc.2 h2
theorem zV_l {K : Nat → Int} {X : Nat → Nat} {P : zP9} {c : Int} (hP : zV P) (hc : 10 ≤ c ∧ c ≤ 15) (h2 : c ≠ 13) : zV (zlZ K X P c) := by
  intro b L g ⟨⟨m, h⟩, _⟩
  exact zV_F hP hc h2 m b L g h
theorem zjn_b {c : Int} {a b : Int64} (h : c = 14 ∨ c = 15) (ha : a = 0 ∨ a = 1) (hb : b = 0 ∨ b = 1) : zjn c a b = 0 ∨ zjn c a b = 1 := by
  rcases h with rfl | rfl <;> rcases ha with rfl | rfl <;> rcases hb with rfl | rfl <;> decide
theorem zjn_c {c : Int} {a b : Int64} (h : c = 11 ∨ c = 12) : zjn c a b = 0 ∨ zjn c a b = 1 := by
  unfold zjn
  rcases h with rfl | rfl
  · rw [if_neg (by omega), if_pos rfl]
    by_cases q : a.toInt < b.toInt
    · rw [if_pos q]; exact Or.inr rfl
    · rw [if_neg q]; exact Or.inl rfl
  · rw [if_neg (by omega), if_neg (by omega), if_pos rfl]
    by_cases q : b.toInt < a.toInt
    · rw [if_pos q]; exact Or.inr rfl
    · rw [if_neg q]; exact Or.inl rfl
theorem zB_F {K : Nat → Int} {X : Nat → Nat} {P : zP9} {c : Int} (hP : zB P) (hc : c = 14 ∨ c = 15) : ∀ (m b : Nat) (L : List Int) (g : Nat), zlF K X P c m b L g → ∀ (f : Nat → Int64) (u : List Int64), ∃ v : Int64, (v = 0 ∨ v = 1) ∧ zrn f L u = v :: u := by
  intro m
  induction m with
  | zero => exact hP
  | succ m ih =>
    intro b L g h f u
    obtain ⟨L1, b1, L2, h1, -, h3, rfl⟩ := h
    obtain ⟨v1, q1, e1⟩ := ih _ _ _ h1 f u
    obtain ⟨v2, q2, e2⟩ := hP _ _ _ h3 f (v1 :: u)
    refine ⟨zjn c v1 v2, zjn_b hc q1 q2, ?_⟩
    rw [zrn_app, zrn_app, e1, e2]
    exact zst_j (by omega) (by omega) (by omega)
theorem zB_l {K : Nat → Int} {X : Nat → Nat} {P : zP9} {c : Int} (hP : zB P) (hc : c = 14 ∨ c = 15) : zB (zlZ K X P c) := by
  intro b L g ⟨⟨m, h⟩, _⟩
  exact zB_F hP hc m b L g h
theorem zD_c {K : Nat → Int} {X : Nat → Nat} : zD (zcZ K X) 3 := by
  intro b L g h n hn
  obtain ⟨L1, b1, L2, h1, h2, h3, rfl⟩ := h
  have d := zD_l (K := K) (X := X) (c := 10) (zD_p (K := K) (X := X)) (by omega) (by omega) (Nat.le_refl 1)
  exact zgd_s (zgd_s (d _ _ _ h1 n (by omega)) (d _ _ _ h3 (n + 1) (by omega))) (zgd_j (by omega) (by omega) (by omega))
theorem zB_c {K : Nat → Int} {X : Nat → Nat} : zB (zcZ K X) := by
  intro b L g h f u
  obtain ⟨L1, b1, L2, h1, h2, h3, rfl⟩ := h
  have d := zV_l (K := K) (X := X) (c := 10) (zV_p (K := K) (X := X)) (by omega) (by omega)
  obtain ⟨v1, e1⟩ := d _ _ _ h1 f u
  obtain ⟨v2, e2⟩ := d _ _ _ h3 f (v1 :: u)
  refine ⟨zjn (K b1) v1 v2, zjn_c h2, ?_⟩
  rw [zrn_app, zrn_app, e1, e2]
  exact zst_j (by omega) (by omega) (by omega)
theorem zD_a {K : Nat → Int} {X : Nat → Nat} : ∀ d : Nat, zD (zaZ K X d) (3 + 2 * d) := by
  intro d
  induction d with
  | zero => intro b L g h n hn; exact zD_c _ _ _ h.2 n hn
  | succ d ih =>
    intro b L g h n hn
    rcases h with ⟨h0, L1, h1, rfl⟩ | ⟨h0, b1, h1, h2, h3⟩ | ⟨h0, h1⟩
    · exact zgd_s (ih _ _ _ h1 n (by omega)) (zgd_t (by omega))
    · exact zD_l (zD_l ih (c := 14) (by omega) (by omega) (by omega)) (c := 15) (by omega) (by omega) (by omega) _ _ _ h1 n (by omega)
    · exact zD_c _ _ _ h1 n (by omega)
theorem zB_a {K : Nat → Int} {X : Nat → Nat} : ∀ d : Nat, zB (zaZ K X d) := by
  intro d
  induction d with
  | zero => intro b L g h; exact zB_c _ _ _ h.2
  | succ d ih =>
    intro b L g h f u
    rcases h with ⟨h0, L1, h1, rfl⟩ | ⟨h0, b1, h1, h2, h3⟩ | ⟨h0, h1⟩
    · obtain ⟨v, q, e⟩ := ih _ _ _ h1 f u
      refine ⟨1 - v, ?_, ?_⟩
      · rcases q with rfl | rfl
        · exact Or.inr (by decide)
        · exact Or.inl (by decide)
      · rw [zrn_app, e]
        exact zst_t (f := f) rfl
    · exact zB_l (zB_l ih (Or.inl rfl)) (Or.inr rfl) _ _ _ h1 f u
    · exact zB_c _ _ _ h1 f u
/-- whether what a line asks for holds -/
def zhd (f : Nat → Int64) (L : List Int) : Prop := zrn f L [] = [] ∨ zrn f L [] = [1]
/-- what is known of the code of a line: none, or one truth -/
def zok (L : List Int) : Prop := (∃ m, zgd L 0 = some m) ∧ ∀ f : Nat → Int64, zrn f L [] = [] ∨ ∃ v : Int64, (v = 0 ∨ v = 1) ∧ zrn f L [] = [v]
theorem zok_f {K : Nat → Int} {X : Nat → Nat} {b : Nat} {L : List Int} {g : Nat} (h : zfZ K X b L g) : zok L := by
  rcases h with ⟨-, rfl, -⟩ | ⟨-, h⟩
  · exact ⟨⟨0, rfl⟩, fun f => Or.inl rfl⟩
  · refine ⟨⟨1, zD_l (zD_l (zD_a 6) (c := 14) (by omega) (by omega) (by omega)) (c := 15) (by omega) (by omega) (by omega) _ _ _ h 0 (by omega)⟩, fun f => Or.inr ?_⟩
    exact zB_l (zB_l (zB_a 6) (Or.inl rfl)) (Or.inr rfl) _ _ _ h f []
theorem zok_n {K : Nat → Int} {X : Nat → Nat} {b : Nat} {e : Int × List Int} {g : Nat} (h : znZ K X b e g) : zok e.2 := by
  obtain ⟨-, h⟩ := h
  rcases h with ⟨-, -, q⟩ | ⟨-, -, q⟩ | ⟨-, -, q⟩ | ⟨-, q⟩ | ⟨-, b1, -, q⟩
  · rw [q]; exact ⟨⟨0, rfl⟩, fun f => Or.inl rfl⟩
  · rw [q]; exact ⟨⟨0, rfl⟩, fun f => Or.inl rfl⟩
  · rw [q]; exact ⟨⟨0, rfl⟩, fun f => Or.inl rfl⟩
  · exact zok_f q
  · exact zok_f q
theorem zok_w {K : Nat → Int} {X : Nat → Nat} : ∀ (m b : Nat) (A : zAl) (f : Nat), zwF K X m b A f → ∀ e ∈ A, zok e.2 := by
  intro m
  induction m with
  | zero =>
    intro b A f h e he
    rw [h.1] at he
    exact absurd he List.not_mem_nil
  | succ m ih =>
    intro b A f h e he
    obtain ⟨A1, b1, d, b2, h1, h2, -, rfl, -⟩ := h
    rcases List.mem_append.mp he with q | q
    · exact ih _ _ _ h1 e q
    · rw [List.mem_singleton.mp q]; exact zok_n h2
theorem zok_q {t : Nat → Int} {n : Nat} {A : zAl} (h : zqZ t n A) : ∀ e ∈ A, zok e.2 := by
  intro e he
  rcases h with ⟨-, h1⟩ | ⟨-, A1, b1, d, b2, ⟨m, h1⟩, h2, -, rfl⟩
  · rw [h1] at he
    exact absurd he List.not_mem_nil
  · rcases List.mem_append.mp he with q | q
    · exact zok_w _ _ _ _ h1 e q
    · rw [List.mem_singleton.mp q]; exact zok_n h2
/-- the stack as an array holds it -/
def zsk (V : Nat → Int64) : Nat → List Int64
  | 0 => []
  | n + 1 => V n :: zsk V n
def cul (V : Nat → Int64) (i : Nat) (x : Int64) : Nat → Int64 := fun k => if k = i then x else V k
theorem cul_s {V : Nat → Int64} {i k : Nat} {x : Int64} (h : k = i) : cul V i x k = x := if_pos h
theorem cul_o {V : Nat → Int64} {i k : Nat} {x : Int64} (h : k ≠ i) : cul V i x k = V k := if_neg h
theorem zsk_c {V : Nat → Int64} {i : Nat} {x : Int64} : ∀ n, n ≤ i → zsk (cul V i x) n = zsk V n := by
  intro n
  induction n with
  | zero => intro _; rfl
  | succ n ih =>
    intro h
    show cul V i x n :: zsk (cul V i x) n = V n :: zsk V n
    rw [cul_o (by omega), ih (by omega)]
theorem zsk_u {V : Nat → Int64} {i n : Nat} {x : Int64} (h : n = i + 1) : zsk (cul V i x) n = x :: zsk V i := by
  rw [h]
  show cul V i x i :: zsk (cul V i x) i = x :: zsk V i
  rw [cul_s rfl, zsk_c i (Nat.le_refl i)]
/-- one step over the array: what is left to run and the room it has stay as told -/
theorem zgd_1 {c : Int} {L : List Int} {n m : Nat} (h : zgd (c :: L) n = some m) : ((c < 10 ∨ 40 ≤ c) ∧ n < 20 ∧ zgd L (n + 1) = some m) ∨ (c = 13 ∧ 1 ≤ n ∧ zgd L n = some m) ∨ ((10 ≤ c ∧ c ≤ 15) ∧ c ≠ 13 ∧ 2 ≤ n ∧ zgd L (n - 1) = some m) := by
  have h : (if (c < 10 ∨ 40 ≤ c) ∧ n < 20 then zgd L (n + 1) else if c = 13 ∧ 1 ≤ n then zgd L n else if (10 ≤ c ∧ c ≤ 15) ∧ c ≠ 13 ∧ 2 ≤ n then zgd L (n - 1) else none) = some m := h
  by_cases h1 : (c < 10 ∨ 40 ≤ c) ∧ n < 20
  · rw [if_pos h1] at h; exact Or.inl ⟨h1.1, h1.2, h⟩
  · rw [if_neg h1] at h
    by_cases h2 : c = 13 ∧ 1 ≤ n
    · rw [if_pos h2] at h; exact Or.inr (Or.inl ⟨h2.1, h2.2, h⟩)
    · rw [if_neg h2] at h
      by_cases h3 : (10 ≤ c ∧ c ≤ 15) ∧ c ≠ 13 ∧ 2 ≤ n
      · rw [if_pos h3] at h; exact Or.inr (Or.inr ⟨h3.1, h3.2.1, h3.2.2, h⟩)
      · rw [if_neg h3] at h; cases h
theorem zls_s {W : Nat → Int} {E i : Nat} (h : i < E) : zls W (E - i) i = W i :: zls W (E - (i + 1)) (i + 1) := by
  rw [show E - i = (E - (i + 1)) + 1 by omega]
  rfl
/-- what a loop over the code keeps: what is left of it, run over the stack, gives what all of it gives -/
def zLp (f : Nat → Int64) (W : Nat → Int) (E m : Nat) (R : List Int64) (i n : Nat) (V : Nat → Int64) : Prop := zgd (zls W (E - i) i) n = some m ∧ zrn f (zls W (E - i) i) (zsk V n) = R
theorem zLp_0 {f : Nat → Int64} {W : Nat → Int} {E m b i n : Nat} {V : Nat → Int64} (h : zgd (zC W b E) 0 = some m) (hi : i = b) (hn : n = 0) : zLp f W E m (zrn f (zC W b E) []) i n V := by
  subst hi hn
  exact ⟨h, rfl⟩
theorem zLp_g {f : Nat → Int64} {W : Nat → Int} {E m i n : Nat} {R : List Int64} {V : Nat → Int64} (h : zLp f W E m R i n V) (hi : i < E) : ((W i < 10 ∨ 40 ≤ W i) ∧ n < 20) ∨ (W i = 13 ∧ 1 ≤ n) ∨ ((10 ≤ W i ∧ W i ≤ 15) ∧ W i ≠ 13 ∧ 2 ≤ n) := by
  have h1 := h.1
  rw [zls_s hi] at h1
  rcases zgd_1 h1 with ⟨a, b, -⟩ | ⟨a, b, -⟩ | ⟨a, b, c, -⟩
  · exact Or.inl ⟨a, b⟩
  · exact Or.inr (Or.inl ⟨a, b⟩)
  · exact Or.inr (Or.inr ⟨a, b, c⟩)
theorem zLp_p {f : Nat → Int64} {W : Nat → Int} {E m i n n1 : Nat} {R : List Int64} {V V1 : Nat → Int64} {y : Int64} (h : zLp f W E m R i n V) (hi : i < E) (hy : (W i < 10 ∧ y = f (W i).toNat) ∨ (40 ≤ W i ∧ y = Int64.ofInt (W i - 40))) (hn : n1 = n + 1) (hV : V1 = cul V n y) : zLp f W E m R (i + 1) n1 V1 := by
  subst hV hn
  obtain ⟨h1, h2⟩ := h
  rw [zls_s hi] at h1 h2
  refine ⟨?_, ?_⟩
  · rcases zgd_1 h1 with ⟨a, b, c⟩ | ⟨a, -, -⟩ | ⟨a, -, -, -⟩
    · exact c
    · exfalso; rcases hy with ⟨q, -⟩ | ⟨q, -⟩ <;> omega
    · exfalso; rcases hy with ⟨q, -⟩ | ⟨q, -⟩ <;> omega
  · rw [zsk_u rfl]
    have e : zst f (W i) (zsk V n) = y :: zsk V n := by
      rcases hy with ⟨a, b⟩ | ⟨a, b⟩
      · rw [zst_f a, b]
      · rw [zst_n a, b]
    rw [← e]
    exact h2
theorem zLp_t {f : Nat → Int64} {W : Nat → Int} {E m i n : Nat} {R : List Int64} {V V1 : Nat → Int64} {y : Int64} (h : zLp f W E m R i n V) (hi : i < E) (hc : W i = 13) (hy : y = 1 - V (n - 1)) (hV : V1 = cul V (n - 1) y) : zLp f W E m R (i + 1) n V1 := by
  obtain ⟨h1, h2⟩ := h
  rw [zls_s hi] at h1 h2
  rcases zgd_1 h1 with ⟨a, -, -⟩ | ⟨-, b, c⟩ | ⟨-, a, -, -⟩
  · exfalso; omega
  · obtain ⟨k, rfl⟩ : ∃ k, n = k + 1 := ⟨n - 1, by omega⟩
    refine ⟨c, ?_⟩
    rw [show k + 1 - 1 = k by omega] at hy hV
    rw [hV, hy, zsk_u rfl]
    have e : zst f (W i) (zsk V (k + 1)) = (1 - V k) :: zsk V k := zst_t hc
    rw [← e]
    exact h2
  · exact absurd hc a
theorem zLp_j {f : Nat → Int64} {W : Nat → Int} {E m i n n1 : Nat} {R : List Int64} {V V1 : Nat → Int64} {y : Int64} (h : zLp f W E m R i n V) (hi : i < E) (hc : 10 ≤ W i ∧ W i ≤ 15) (h3 : W i ≠ 13) (hn : n1 = n - 1) (hy : y = zjn (W i) (V (n - 2)) (V (n - 1))) (hV : V1 = cul V (n - 2) y) : zLp f W E m R (i + 1) n1 V1 := by
  obtain ⟨h1, h2⟩ := h
  rw [zls_s hi] at h1 h2
  rcases zgd_1 h1 with ⟨a, -, -⟩ | ⟨a, -, -⟩ | ⟨-, -, b, c⟩
  · exfalso; omega
  · exact absurd a h3
  · obtain ⟨k, rfl⟩ : ∃ k, n = k + 2 := ⟨n - 2, by omega⟩
    rw [show k + 2 - 1 = k + 1 by omega] at hn hy c
    rw [show k + 2 - 2 = k by omega] at hy hV
    subst hn
    refine ⟨c, ?_⟩
    rw [hV, hy, zsk_u rfl]
    have e : zst f (W i) (zsk V (k + 2)) = zjn (W i) (V k) (V (k + 1)) :: zsk V k := zst_j hc.1 hc.2 h3
    rw [← e]
    exact h2
theorem zLp_e {f : Nat → Int64} {W : Nat → Int} {E m i n : Nat} {R : List Int64} {V : Nat → Int64} (h : zLp f W E m R i n V) (hi : E ≤ i) : zsk V n = R := by
  have h2 := h.2
  rw [zls_0 (by omega)] at h2
  exact h2
theorem zfin {V : Nat → Int64} {n : Nat} {R : List Int64} (h : zsk V n = R) (hz : R = [] ∨ ∃ v : Int64, (v = 0 ∨ v = 1) ∧ R = [v]) : (n = 0 ∧ R = []) ∨ (n = 1 ∧ R = [V 0] ∧ (V 0 = 0 ∨ V 0 = 1)) := by
  cases n with
  | zero => exact Or.inl ⟨rfl, h.symm⟩
  | succ n =>
    have h : V n :: zsk V n = R := h
    rcases hz with q | ⟨v, q, e⟩
    · rw [q] at h; cases h
    · rw [e] at h
      cases n with
      | zero =>
        have h0 : V 0 = v := (List.cons.inj h).1
        rw [e, h0]
        exact Or.inr ⟨rfl, rfl, q⟩
      | succ n => exact absurd (List.cons.inj h).2 (List.cons_ne_nil _ _)
theorem zend_1 {f : Nat → Int64} {W : Nat → Int} {E m b i n : Nat} {V : Nat → Int64} (h : zLp f W E m (zrn f (zC W b E) []) i n V) (hi : E ≤ i) (hk : zok (zC W b E)) (hq : n = 0 ∨ V 0 ≠ 0) : zhd f (zC W b E) := by
  rcases zfin (zLp_e h hi) (hk.2 f) with ⟨-, q⟩ | ⟨q1, q2, q3⟩
  · exact Or.inl q
  · rcases hq with z | z
    · omega
    · rcases q3 with y | y
      · exact absurd y z
      · exact Or.inr (by rw [q2, y])
theorem zend_0 {f : Nat → Int64} {W : Nat → Int} {E m b i n : Nat} {V : Nat → Int64} (h : zLp f W E m (zrn f (zC W b E) []) i n V) (hi : E ≤ i) (hk : zok (zC W b E)) (hn : n ≠ 0) (hq : V 0 = 0 ∨ V 0 ≠ 1) : ¬ zhd f (zC W b E) := by
  rcases zfin (zLp_e h hi) (hk.2 f) with ⟨q, -⟩ | ⟨q1, q2, q3⟩
  · exact absurd q hn
  · have z : V 0 = 0 := by
      rcases hq with y | y
      · exact y
      · exact q3.resolve_right y
    intro w
    rcases w with w | w
    · rw [q2] at w; cases w
    · rw [q2, z] at w
      exact absurd (List.cons.inj w).1 (by decide)
/-- what stands in an array of longs, place by place -/
def ctl (H : Heap) (a n : Nat) (V : Nat → Int64) : Prop := ∀ i, i < n → el H a i = some (.long (V i))
theorem ctl.kept {H H1 : Heap} {a n : Nat} {V : Nat → Int64} (h : ctl H a n V) (e : H1[a]? = H[a]?) : ctl H1 a n V := fun i hi => (el_kept e).trans (h i hi)
theorem ctl.put {H H1 : Heap} {a n : Nat} {V : Nat → Int64} (h : ctl H a n V) {i : Nat} {x : Int64} (e : el H1 a i = some (.long x)) (o : ∀ k, k ≠ i → el H1 a k = el H a k) : ctl H1 a n (cul V i x) := by
  intro k hk
  by_cases q : k = i
  · rw [cul_s q, q]; exact e
  · rw [cul_o q]; exact (o k q).trans (h k hk)
theorem ctl.at {H : Heap} {a n : Nat} {V : Nat → Int64} (h : ctl H a n V) {i : Nat} {x : Int64} (e : el H a i = some (.long x)) (hi : i < n) : x = V i := by
  rw [h i hi] at e
  cases e
  rfl
theorem ctl.ext {H : Heap} {a n : Nat} {V W : Nat → Int64} (h : ctl H a n V) (e : ∀ i, i < n → V i = W i) : ctl H a n W := fun i hi => by rw [← e i hi]; exact h i hi
theorem ctl_of {D : va_G} {kA : Nat → ClassId} {Sg : Nat → gS} {G : gT} {H : Heap} {a t j n : Nat} (hT : gH D kA Sg G H) (ha : G a = some t) (hs : Sg t = .inr (j, n, ga gJ)) : ∃ V : Nat → Int64, ctl H a n V := by
  have h : ∀ i, i < n → ∃ x : Int64, el H a i = some (.long x) := by
    intro i hi
    obtain ⟨v, e, x, rfl⟩ := gH_el hT ha hs hi
    exact ⟨x, e⟩
  refine ⟨fun i => if q : i < n then Classical.choose (h i q) else 0, fun i hi => ?_⟩
  simp only [dif_pos hi]
  exact Classical.choose_spec (h i hi)
theorem tl_eq {x : Int64} {a : Int} (h : x.toInt = a) : x = Int64.ofInt a := by rw [← h]; exact (Int64.ofInt_toInt x).symm
theorem i2l_of (x : Int32) : x.toInt64 = Int64.ofInt x.toInt := tl_eq (Int32.toInt_toInt64 x)
/-- the codes that an array of ints holds -/
def tz (V : Nat → Int32) : Nat → Int := fun k => (V k).toInt
theorem zjn_10 {c : Int} {a b : Int64} (h : c = 10) : zjn c a b = a + b := if_pos h
theorem zjn_11 {c : Int} {a b : Int64} (h : c = 11) : (a.toInt < b.toInt → zjn c a b = 1) ∧ (¬ a.toInt < b.toInt → zjn c a b = 0) := by
  unfold zjn
  rw [if_neg (by omega), if_pos h]
  exact ⟨fun q => if_pos q, fun q => if_neg q⟩
theorem zjn_12 {c : Int} {a b : Int64} (h : c = 12) : (b.toInt < a.toInt → zjn c a b = 1) ∧ (¬ b.toInt < a.toInt → zjn c a b = 0) := by
  unfold zjn
  rw [if_neg (by omega), if_neg (by omega), if_pos h]
  exact ⟨fun q => if_pos q, fun q => if_neg q⟩
theorem zjn_14 {c : Int} {a b : Int64} (h : c = 14) : zjn c a b = a * b := by
  unfold zjn
  rw [if_neg (by omega), if_neg (by omega), if_neg (by omega), if_pos h]
theorem zjn_15 {c : Int} {a b : Int64} (h0 : c ≠ 10) (h1 : c ≠ 11) (h2 : c ≠ 12) (h3 : c ≠ 14) : zjn c a b = if b < a then a else b := by
  unfold zjn
  rw [if_neg h0, if_neg h1, if_neg h2, if_neg h3]
/-- an array as it was below a place -/
def zKp (V V1 : Nat → Int32) (s : Nat) : Prop := ∀ j : Nat, j < s → V1 j = V j
theorem zKp.rf {V : Nat → Int32} {s : Nat} : zKp V V s := fun _ _ => rfl
theorem zKp.tr {V V1 V2 : Nat → Int32} {s s1 : Nat} (h : zKp V V1 s) (g : zKp V1 V2 s1) (hs : s ≤ s1) : zKp V V2 s := fun j hj => (g j (by omega)).trans (h j hj)
theorem zKp.st {V V1 : Nat → Int32} {s i : Nat} {x : Int32} (h : zKp V V1 s) (hs : s ≤ i) : zKp V (cu V1 i x) s := fun j hj => (cu_o (by omega)).trans (h j hj)
theorem zC_3 {V V1 V2 : Nat → Int32} {s0 sx s2 s3 : Nat} {x : Int32} {c : Int} (h1 : s0 ≤ sx) (h2 : sx ≤ s2) (k1 : zKp V V1 sx) (hs : s3 = s2 + 1) (hV : V2 = cu V1 s2 x) (hc : x.toInt = c) : zC (tz V2) s0 s3 = zC (tz V) s0 sx ++ zC (tz V1) sx s2 ++ [c] := by
  have e1 : ∀ j, j < s2 → tz V2 j = tz V1 j := fun j hj => by rw [hV]; exact congrArg Int32.toInt (cu_o (by omega))
  have e2 : ∀ j, j < sx → tz V1 j = tz V j := fun j hj => congrArg Int32.toInt (k1 j hj)
  have e3 : tz V2 s2 = c := by rw [hV]; exact (congrArg Int32.toInt (cu_s rfl)).trans hc
  have a1 := zC_app (s := s0) (s1 := s2) (s2 := s3) (by omega) (by omega) e1
  have a2 := zC_app (s := s0) (s1 := sx) (s2 := s2) h1 h2 e2
  rw [a1, a2, zC_one hs e3]
theorem zC_2 {V1 V2 : Nat → Int32} {s0 s2 s3 : Nat} {x : Int32} {c : Int} (h1 : s0 ≤ s2) (hs : s3 = s2 + 1) (hV : V2 = cu V1 s2 x) (hc : x.toInt = c) : zC (tz V2) s0 s3 = zC (tz V1) s0 s2 ++ [c] := by
  have e1 : ∀ j, j < s2 → tz V2 j = tz V1 j := fun j hj => by rw [hV]; exact congrArg Int32.toInt (cu_o (by omega))
  have e3 : tz V2 s2 = c := by rw [hV]; exact (congrArg Int32.toInt (cu_s rfl)).trans hc
  have a1 := zC_app (s := s0) (s1 := s2) (s2 := s3) h1 (by omega) e1
  rw [a1, zC_one hs e3]
theorem zC_1 {V V2 : Nat → Int32} {s s1 : Nat} {x : Int32} {c : Int} (hs : s1 = s + 1) (hV : V2 = cu V s x) (hc : x.toInt = c) : zC (tz V2) s s1 = [c] := zC_one hs (by rw [hV]; exact (congrArg Int32.toInt (cu_s rfl)).trans hc)
/-- a line as it was read into the arrays: its kind, where its code begins and ends -/
def zLn (K : Nat → Int) (X : Nat → Nat) (p q : Nat) (W : Nat → Int) (s s1 : Nat) (k f t : Int32) : Prop := ∃ e : Int × List Int, znZ K X p e q ∧ k.toInt = e.1 ∧ (e.1 ≤ 6 → f.toNatClampNeg = s ∧ t.toNatClampNeg = s1 ∧ e.2 = zC W s s1)
/-- the lines as the arrays hold them, their code below s -/
def zRp (A : zAl) (vK vF vE : Nat → Int32) (W : Nat → Int) (s : Nat) : Prop := ∀ (l : Nat) (e : Int × List Int), A[l]? = some e → (vK l).toInt = e.1 ∧ (e.1 ≤ 6 → (vF l).toNatClampNeg ≤ (vE l).toNatClampNeg ∧ (vE l).toNatClampNeg ≤ s ∧ e.2 = zC W (vF l).toNatClampNeg (vE l).toNatClampNeg)
theorem zRp_0 {vK vF vE : Nat → Int32} {W : Nat → Int} {s : Nat} : zRp [] vK vF vE W s := fun l e h => by cases h
theorem zRp.mono {A : zAl} {vK vF vE : Nat → Int32} {W : Nat → Int} {s s1 : Nat} (h : zRp A vK vF vE W s) (hs : s ≤ s1) : zRp A vK vF vE W s1 := fun l e q => ⟨(h l e q).1, fun z => ⟨((h l e q).2 z).1, Nat.le_trans ((h l e q).2 z).2.1 hs, ((h l e q).2 z).2.2⟩⟩
theorem zRp.step {K : Nat → Int} {X : Nat → Nat} {p q n s s1 : Nat} {A : zAl} {vK vF vE vK1 vF1 vE1 : Nat → Int32} {W W1 : Nat → Int} (h : zRp A vK vF vE W s) (hn : A.length = n) (hl : zLn K X p q W1 s s1 (vK1 n) (vF1 n) (vE1 n)) (h1 : zKp vK vK1 n) (h2 : zKp vF vF1 n) (h3 : zKp vE vE1 n) (h4 : ∀ j, j < s → W1 j = W j) (hs : s ≤ s1) : ∃ e, znZ K X p e q ∧ zRp (A ++ [e]) vK1 vF1 vE1 W1 s1 := by
  obtain ⟨e, e1, e2, e3⟩ := hl
  refine ⟨e, e1, fun l d hd => ?_⟩
  rcases Nat.lt_or_ge l A.length with z | z
  · rw [List.getElem?_append_left z] at hd
    obtain ⟨g1, g2⟩ := h l d hd
    rw [h1 l (by omega), h2 l (by omega), h3 l (by omega)]
    refine ⟨g1, fun y => ?_⟩
    obtain ⟨k1, k2, k3⟩ := g2 y
    refine ⟨k1, Nat.le_trans k2 hs, k3.trans (zC_c (fun j hj => h4 j (by omega))).symm⟩
  · have hle : l = A.length := by
      rcases Nat.lt_or_ge A.length l with y | y
      · rw [List.getElem?_eq_none (by rw [List.length_append]; show A.length + 1 ≤ l; omega)] at hd
        cases hd
      · omega
    subst hle
    rw [List.getElem?_append_right (Nat.le_refl _), Nat.sub_self] at hd
    have hd : e = d := Option.some.inj hd
    subst hd
    rw [hn]
    refine ⟨e2, fun y => ?_⟩
    obtain ⟨k1, k2, k3⟩ := e3 y
    rw [k1, k2]
    exact ⟨hs, Nat.le_refl _, k3⟩
/-- what a loop over the lines keeps -/
def zRd (t : Nat → Int) (n : Nat) (m : Int) (k p : Nat) (vK vF vE : Nat → Int32) (W : Nat → Int) (s : Nat) : Prop := (m = 1 → skp t n 0 ≠ n ∧ ∃ A : zAl, zwI (kd t n) (xn t n) (skp t n 0) A p ∧ A.length = k ∧ zRp A vK vF vE W s) ∧ (m = 0 → kd t n p = 21 → ∃ A : zAl, zqZ t n A ∧ A.length = k ∧ zRp A vK vF vE W s)
/-- the lines of a text, as the arrays hold them -/
def zRe (t : Nat → Int) (n k : Nat) (vK vF vE : Nat → Int32) (W : Nat → Int) : Prop := zqZ t n (zlA t n) ∧ (zlA t n).length = k ∧ zRp (zlA t n) vK vF vE W 400
theorem zRd_1 {t : Nat → Int} {n k : Nat} {m : Int} {vK vF vE : Nat → Int32} {W : Nat → Int} {s : Nat} (hm : m = 1) (hk : k = 0) (h : kd t n (skp t n 0) ≠ 21) : zRd t n m k (skp t n 0) vK vF vE W s := by
  subst hk
  refine ⟨fun _ => ⟨fun q => h (kd_e (Nat.le_of_eq q.symm)), [], zwI_0, rfl, zRp_0⟩, fun q => by omega⟩
theorem zRd_0 {t : Nat → Int} {n k : Nat} {m : Int} {vK vF vE : Nat → Int32} {W : Nat → Int} {s : Nat} (hm : m = 0) (hk : k = 0) : zRd t n m k (skp t n 0) vK vF vE W s := by
  subst hk
  refine ⟨fun q => by omega, fun _ q => ⟨[], Or.inl ⟨?_, rfl⟩, rfl, zRp_0⟩⟩
  have a := kd_21 q
  have b := (ru_s (P := spB) (t := t) (Nat.zero_le n)).2.1
  have e : skp t n 0 = ru spB t n 0 := rfl
  omega
theorem zRd.step {t : Nat → Int} {n k k1 p q p1 s s1 : Nat} {m m1 : Int} {vK vF vE vK1 vF1 vE1 : Nat → Int32} {W W1 : Nat → Int} (h : zRd t n m k p vK vF vE W s) (hm : m = 1) (hl : zLn (kd t n) (xn t n) p q W1 s s1 (vK1 k) (vF1 k) (vE1 k)) (h1 : zKp vK vK1 k) (h2 : zKp vF vF1 k) (h3 : zKp vE vE1 k) (h4 : ∀ j, j < s → W1 j = W j) (hs : s ≤ s1) (hk : k1 = k + 1) (ht : (kd t n q = 18 ∧ m1 = 1 ∧ p1 = xn t n q) ∨ (kd t n q ≠ 18 ∧ m1 = 0 ∧ p1 = q)) : zRd t n m1 k1 p1 vK1 vF1 vE1 W1 s1 := by
  obtain ⟨a0, A, a1, a2, a3⟩ := h.1 hm
  obtain ⟨e, e1, e2⟩ := a3.step a2 hl h1 h2 h3 h4 hs
  have hln : (A ++ [e]).length = k1 := by rw [List.length_append, hk, ← a2]; rfl
  rcases ht with ⟨t1, t2, t3⟩ | ⟨t1, t2, t3⟩
  · refine ⟨fun _ => ⟨a0, A ++ [e], ?_, hln, e2⟩, fun q => by omega⟩
    rw [t3]
    exact zwI_s a1 e1 t1
  · refine ⟨fun q => by omega, fun _ q => ⟨A ++ [e], Or.inr ⟨a0, A, p, e, p1, a1, ?_, q, rfl⟩, hln, e2⟩⟩
    rw [t3]
    exact e1
theorem zRd.fin {t : Nat → Int} {n k p s : Nat} {m : Int} {vK vF vE : Nat → Int32} {W : Nat → Int} (h : zRd t n m k p vK vF vE W s) (hm : m = 0) (hp : kd t n p = 21) (hs : s ≤ 400) : zRe t n k vK vF vE W := by
  obtain ⟨A, a1, a2, a3⟩ := h.2 hm hp
  have e := zlA_s a1
  subst e
  exact ⟨a1, a2, a3.mono hs⟩
theorem zKp.dz {V V1 : Nat → Int32} {s : Nat} (h : zKp V V1 s) : ∀ j, j < s → tz V1 j = tz V j := fun j hj => congrArg Int32.toInt (h j hj)
theorem zKp.sh {V V1 : Nat → Int32} {o s : Nat} (h : zKp V V1 (o + s)) : zKp (fun l => V (o + l)) (fun l => V1 (o + l)) s := fun j hj => h (o + j) (by omega)
/-- the reference's steps as codes -/
def zcd (s n : Int) : Int := if 0 ≤ s ∧ s < 10 then s else if s = 100 ∧ 0 ≤ n then 40 + n else if 101 ≤ s ∧ s ≤ 106 then s - 91 else 20
theorem zcd_s (s n : Int) : ((0 ≤ s ∧ s < 10) ∧ zcd s n = s) ∨ ((s = 100 ∧ 0 ≤ n) ∧ zcd s n = 40 + n) ∨ ((101 ≤ s ∧ s ≤ 106) ∧ zcd s n = s - 91) ∨ (¬ (0 ≤ s ∧ s < 10) ∧ ¬ (s = 100 ∧ 0 ≤ n) ∧ ¬ (101 ≤ s ∧ s ≤ 106) ∧ zcd s n = 20) := by
  unfold zcd
  by_cases h1 : 0 ≤ s ∧ s < 10
  · rw [if_pos h1]; exact Or.inl ⟨h1, rfl⟩
  · rw [if_neg h1]
    by_cases h2 : s = 100 ∧ 0 ≤ n
    · rw [if_pos h2]; exact Or.inr (Or.inl ⟨h2, rfl⟩)
    · rw [if_neg h2]
      by_cases h3 : 101 ≤ s ∧ s ≤ 106
      · rw [if_pos h3]; exact Or.inr (Or.inr (Or.inl ⟨h3, rfl⟩))
      · rw [if_neg h3]; exact Or.inr (Or.inr (Or.inr ⟨h1, h2, h3, rfl⟩))
theorem zcd_f {s n : Int} (h0 : 0 ≤ s) (h : s < 10) : zcd s n = s := if_pos ⟨h0, h⟩
theorem zcd_n {s n : Int} (h : s = 100) (h0 : 0 ≤ n) : zcd s n = 40 + n := by
  unfold zcd
  rw [if_neg (by omega), if_pos ⟨h, h0⟩]
def zwo (o : Nat) (vS vN : Nat → Int32) : Nat → Int := fun j => zcd (vS (o + j)).toInt (vN (o + j)).toInt
theorem zwo_k {o s : Nat} {vS vN vS1 vN1 : Nat → Int32} (h : zKp vS vS1 (o + s)) (g : zKp vN vN1 (o + s)) : ∀ j, j < s → zwo o vS1 vN1 j = zwo o vS vN j := fun j hj => by
  unfold zwo
  rw [h (o + j) (by omega), g (o + j) (by omega)]
theorem zwo_s {o s : Nat} {vS vN : Nat → Int32} {x y : Int32} : (∀ j, j < s → zwo o (cu vS (o + s) x) (cu vN (o + s) y) j = zwo o vS vN j) ∧ zwo o (cu vS (o + s) x) (cu vN (o + s) y) s = zcd x.toInt y.toInt := by
  refine ⟨fun j hj => ?_, ?_⟩
  · unfold zwo
    rw [cu_o (by omega), cu_o (by omega)]
  · unfold zwo
    rw [cu_s rfl, cu_s rfl]
theorem zD_3 {o : Nat} {vS vN vS1 vN1 vS2 vN2 : Nat → Int32} {s0 sx s2 s3 : Nat} {x y : Int32} {c : Int} (h1 : s0 ≤ sx) (h2 : sx ≤ s2) (k1 : zKp vS vS1 (o + sx)) (k2 : zKp vN vN1 (o + sx)) (hs : s3 = s2 + 1) (hV : vS2 = cu vS1 (o + s2) x) (hN : vN2 = cu vN1 (o + s2) y) (hc : zcd x.toInt y.toInt = c) : zC (zwo o vS2 vN2) s0 s3 = zC (zwo o vS vN) s0 sx ++ zC (zwo o vS1 vN1) sx s2 ++ [c] := by
  subst hV hN
  obtain ⟨e1, e3⟩ := zwo_s (o := o) (s := s2) (vS := vS1) (vN := vN1) (x := x) (y := y)
  have a1 := zC_app (s := s0) (s1 := s2) (s2 := s3) (by omega) (by omega) e1
  have a2 := zC_app (s := s0) (s1 := sx) (s2 := s2) h1 h2 (zwo_k k1 k2)
  rw [a1, a2, zC_one hs (e3.trans hc)]
theorem zD_2 {o : Nat} {vS1 vN1 vS2 vN2 : Nat → Int32} {s0 s2 s3 : Nat} {x y : Int32} {c : Int} (h1 : s0 ≤ s2) (hs : s3 = s2 + 1) (hV : vS2 = cu vS1 (o + s2) x) (hN : vN2 = cu vN1 (o + s2) y) (hc : zcd x.toInt y.toInt = c) : zC (zwo o vS2 vN2) s0 s3 = zC (zwo o vS1 vN1) s0 s2 ++ [c] := by
  subst hV hN
  obtain ⟨e1, e3⟩ := zwo_s (o := o) (s := s2) (vS := vS1) (vN := vN1) (x := x) (y := y)
  have a1 := zC_app (s := s0) (s1 := s2) (s2 := s3) h1 (by omega) e1
  rw [a1, zC_one hs (e3.trans hc)]
theorem zD_1 {o : Nat} {vS vN vS2 vN2 : Nat → Int32} {s s1 : Nat} {x y : Int32} {c : Int} (hs : s1 = s + 1) (hV : vS2 = cu vS (o + s) x) (hN : vN2 = cu vN (o + s) y) (hc : zcd x.toInt y.toInt = c) : zC (zwo o vS2 vN2) s s1 = [c] := by
  subst hV hN
  exact zC_one hs ((zwo_s (o := o) (s := s) (vS := vS) (vN := vN) (x := x) (y := y)).2.trans hc)
/-- so many lines as the arrays hold them, each with its ; -/
def zRw (t : Nat → Int) (n k p : Nat) (vK vF vE : Nat → Int32) (W : Nat → Int) (s : Nat) : Prop := ∃ A : zAl, zwI (kd t n) (xn t n) (skp t n 0) A p ∧ A.length = k ∧ zRp A vK vF vE W s
theorem zRw_0 {t : Nat → Int} {n k p : Nat} {vK vF vE : Nat → Int32} {W : Nat → Int} {s : Nat} (hk : k = 0) (hp : p = skp t n 0) : zRw t n k p vK vF vE W s := by
  subst hk hp
  exact ⟨[], zwI_0, rfl, zRp_0⟩
theorem zRw.step {t : Nat → Int} {n k k1 p q p1 s s1 : Nat} {vK vF vE vK1 vF1 vE1 : Nat → Int32} {W W1 : Nat → Int} (h : zRw t n k p vK vF vE W s) (hl : zLn (kd t n) (xn t n) p q W1 s s1 (vK1 k) (vF1 k) (vE1 k)) (h1 : zKp vK vK1 k) (h2 : zKp vF vF1 k) (h3 : zKp vE vE1 k) (h4 : ∀ j, j < s → W1 j = W j) (hs : s ≤ s1) (hk : k1 = k + 1) (h18 : kd t n q = 18) (hp : p1 = xn t n q) : zRw t n k1 p1 vK1 vF1 vE1 W1 s1 := by
  obtain ⟨A, a1, a2, a3⟩ := h
  obtain ⟨e, e1, e2⟩ := a3.step a2 hl h1 h2 h3 h4 hs
  refine ⟨A ++ [e], ?_, by rw [List.length_append, hk, ← a2]; rfl, e2⟩
  rw [hp]
  exact zwI_s a1 e1 h18
theorem zRw.fin {t : Nat → Int} {n k k1 p q s s1 : Nat} {vK vF vE vK1 vF1 vE1 : Nat → Int32} {W W1 : Nat → Int} (h : zRw t n k p vK vF vE W s) (hn : skp t n 0 ≠ n) (hl : zLn (kd t n) (xn t n) p q W1 s s1 (vK1 k) (vF1 k) (vE1 k)) (h1 : zKp vK vK1 k) (h2 : zKp vF vF1 k) (h3 : zKp vE vE1 k) (h4 : ∀ j, j < s → W1 j = W j) (hs : s ≤ s1) (hk : k1 = k + 1) (h21 : kd t n q = 21) (hs4 : s1 ≤ 400) : zRe t n k1 vK1 vF1 vE1 W1 := by
  obtain ⟨A, a1, a2, a3⟩ := h
  obtain ⟨e, e1, e2⟩ := a3.step a2 hl h1 h2 h3 h4 hs
  have z : zqZ t n (A ++ [e]) := Or.inr ⟨hn, A, p, e, q, a1, e1, h21, rfl⟩
  have y := zlA_s z
  have hln : (A ++ [e]).length = k1 := by rw [List.length_append, hk, ← a2]; rfl
  rw [y] at z hln e2
  exact ⟨z, hln, e2.mono hs4⟩
theorem zRe_0 {t : Nat → Int} {n k : Nat} {vK vF vE : Nat → Int32} {W : Nat → Int} (hn : skp t n 0 = n) (hk : k = 0) : zRe t n k vK vF vE W := by
  have z : zqZ t n [] := Or.inl ⟨hn, rfl⟩
  have y := zlA_s z
  unfold zRe
  rw [← y]
  exact ⟨z, hk.symm, zRp_0⟩
/-- a part of an array over another part of it -/
def zcp (V : Nat → Int32) (o d n : Nat) : Nat → Int32 := fun j => if d ≤ j ∧ j < d + n then V (o + (j - d)) else V j
theorem zcp_0 {V : Nat → Int32} {o d i : Nat} : V i = zcp V o d 0 i := (if_neg (by omega)).symm
theorem zcp_s {V : Nat → Int32} {o d n i : Nat} {k : Nat} {x : Int32} (hk : k = d + n) (hx : x = V (o + n)) : cu (zcp V o d n) k x i = zcp V o d (n + 1) i := by
  subst hk hx
  by_cases e : i = d + n
  · rw [cu_s e]
    unfold zcp
    rw [if_pos (by omega), show o + (i - d) = o + n by omega]
  · rw [cu_o e]
    unfold zcp
    by_cases q : d ≤ i ∧ i < d + n
    · rw [if_pos q, if_pos (by omega)]
    · rw [if_neg q, if_neg (by omega)]
theorem zcp_o {V : Nat → Int32} {o d n j : Nat} (h : j < d ∨ d + n ≤ j) : zcp V o d n j = V j := if_neg (by omega)
theorem zcp_i {V : Nat → Int32} {o d n j : Nat} (h : d ≤ j) (h1 : j < d + n) : zcp V o d n j = V (o + (j - d)) := if_pos ⟨h, h1⟩
theorem zKp.le {V V1 : Nat → Int32} {s s1 : Nat} (h : zKp V V1 s) (hs : s1 ≤ s) : zKp V V1 s1 := fun j hj => h j (by omega)
theorem zKp.cp {V V1 : Nat → Int32} {o d n : Nat} (h : zKp V V1 d) : zKp V (zcp V1 o d n) d := fun j hj => (zcp_o (Or.inl hj)).trans (h j hj)
/-- the law in force, as the reference's arrays hold it: the lines of a text -/
def zFo (A : zAl) (vL vO vB vX vS vN : Nat → Int32) : Prop := (vL 0).toInt = ((A.length : Nat) : Int) ∧ A.length ≤ 20 ∧ zRp A vO vB vX (zwo 0 vS vN) 400
def zKe (vL vO vB vX vS vN uL uO uB uX uS uN : Nat → Int32) : Prop := uL 0 = vL 0 ∧ zKp vO uO 20 ∧ zKp vB uB 20 ∧ zKp vX uX 20 ∧ zKp vS uS 400 ∧ zKp vN uN 400
theorem zRp.kept {A : zAl} {vK vF vE vK1 vF1 vE1 : Nat → Int32} {W W1 : Nat → Int} {s : Nat} (h : zRp A vK vF vE W s) (h1 : ∀ l, l < A.length → vK1 l = vK l) (h2 : ∀ l, l < A.length → vF1 l = vF l) (h3 : ∀ l, l < A.length → vE1 l = vE l) (h4 : ∀ j, j < s → W1 j = W j) : zRp A vK1 vF1 vE1 W1 s := by
  intro l e he
  have hl : l < A.length := by
    rcases Nat.lt_or_ge l A.length with q | q
    · exact q
    · rw [List.getElem?_eq_none q] at he; cases he
  obtain ⟨g1, g2⟩ := h l e he
  rw [h1 l hl, h2 l hl, h3 l hl]
  refine ⟨g1, fun z => ?_⟩
  obtain ⟨k1, k2, k3⟩ := g2 z
  exact ⟨k1, k2, k3.trans (zC_c (fun j hj => h4 j (by omega))).symm⟩
theorem zFo.kept {A : zAl} {vL vO vB vX vS vN uL uO uB uX uS uN : Nat → Int32} (h : zFo A vL vO vB vX vS vN) (k : zKe vL vO vB vX vS vN uL uO uB uX uS uN) : zFo A uL uO uB uX uS uN := by
  obtain ⟨h1, h2, h3⟩ := h
  obtain ⟨k0, k1, k2, k3, k4, k5⟩ := k
  refine ⟨by rw [k0]; exact h1, h2, h3.kept (fun l hl => k1 l (by omega)) (fun l hl => k2 l (by omega)) (fun l hl => k3 l (by omega)) (fun j hj => ?_)⟩
  unfold zwo
  rw [k4 (0 + j) (by omega), k5 (0 + j) (by omega)]
theorem zFo_c {t : Nat → Int} {n k : Nat} {vO vB vX vS vN : Nat → Int32} (h : zRe t n k (fun l => vO (40 + l)) (fun l => vB (40 + l)) (fun l => vX (40 + l)) (zwo 800 vS vN)) (hk : k ≤ 20) {uL : Nat → Int32} (hL : (uL 0).toInt = ((k : Nat) : Int)) : zFo (zlA t n) uL (zcp vO 40 0 20) (zcp vB 40 0 20) (zcp vX 40 0 20) (zcp vS 800 0 400) (zcp vN 800 0 400) := by
  obtain ⟨h1, h2, h3⟩ := h
  refine ⟨by rw [h2]; exact hL, by omega, h3.kept (fun l hl => ?_) (fun l hl => ?_) (fun l hl => ?_) (fun j hj => ?_)⟩
  · exact (zcp_i (Nat.zero_le l) (by omega)).trans (by rw [Nat.sub_zero])
  · exact (zcp_i (Nat.zero_le l) (by omega)).trans (by rw [Nat.sub_zero])
  · exact (zcp_i (Nat.zero_le l) (by omega)).trans (by rw [Nat.sub_zero])
  · unfold zwo
    rw [zcp_i (j := 0 + j) (by omega) (by omega), zcp_i (j := 0 + j) (by omega) (by omega), show 0 + j - 0 = j by omega]
/-- some settler below n holds a farm -/
def zHb (vH : Nat → Int32) (n : Int) : Prop := ∃ p : Nat, ((p : Nat) : Int) < n ∧ 0 ≤ (vH p).toInt
theorem zHb_no {vH : Nat → Int32} {n : Int} (h : ∀ p : Nat, ((p : Nat) : Int) < n → (vH p).toInt < 0) : ¬ zHb vH n := fun ⟨p, h1, h2⟩ => by
  have := h p h1
  omega
/-- the facts of one, as numbers -/
def zfL (L : List Int) : Nat → Int64 := fun k => Int64.ofInt (L.getD k 0)
def zfE (L : List Int) (f : Nat → Int64) : Prop := ∀ k : Nat, k < 10 → f k = zfL L k
theorem zrn_c {f h : Nat → Int64} (e : ∀ k : Nat, k < 10 → f k = h k) : ∀ (M : List Int) (u : List Int64), zrn f M u = zrn h M u := by
  intro M
  induction M with
  | nil => intro u; rfl
  | cons c M ih =>
    intro u
    have z : zst f c u = zst h c u := by
      by_cases q : c < 10
      · rw [zst_f q, zst_f q, e c.toNat (by omega)]
      · unfold zst
        rw [if_neg q, if_neg q]
    show zrn f M (zst f c u) = zrn h M (zst h c u)
    rw [z]
    exact ih _
theorem zhd_c {L M : List Int} {f : Nat → Int64} (e : zfE L f) : zhd f M ↔ zhd (zfL L) M := by
  unfold zhd
  rw [zrn_c e M []]
/-- one of the first n lines says OUT -/
def zOl (L : List Int) (A : zAl) (n : Nat) : Prop := ∃ l : Nat, l < n ∧ ∃ e, A[l]? = some e ∧ e.1 = 6 ∧ zhd (zfL L) e.2
def zOut (L : List Int) (A : zAl) : Prop := zOl L A A.length
theorem zOl_0 {L : List Int} {A : zAl} : ¬ zOl L A 0 := fun ⟨l, h, _⟩ => absurd h (Nat.not_lt_zero l)
theorem zOl_s {L : List Int} {A : zAl} {n : Nat} (h : zOl L A n) : zOl L A (n + 1) := by
  obtain ⟨l, h1, h2⟩ := h
  exact ⟨l, by omega, h2⟩
theorem zOl_k {L : List Int} {A : zAl} {n : Nat} {vK vF vE : Nat → Int32} {W : Nat → Int} {s : Nat} {f : Nat → Int64} (hR : zRp A vK vF vE W s) (hf : zfE L f) (h : ¬ zOl L A n) (hq : (vK n).toInt ≠ 6 ∨ ¬ zhd f (zC W (vF n).toNatClampNeg (vE n).toNatClampNeg)) : ¬ zOl L A (n + 1) := by
  rintro ⟨l, h1, e, h2, h3, h4⟩
  by_cases z : l = n
  · subst z
    obtain ⟨g1, g2⟩ := hR l e h2
    rcases hq with q | q
    · omega
    · rw [← (g2 (by omega)).2.2] at q
      exact q ((zhd_c hf).mpr h4)
  · exact h ⟨l, by omega, e, h2, h3, h4⟩
theorem zOl_y {L : List Int} {A : zAl} {n : Nat} {vK vF vE : Nat → Int32} {W : Nat → Int} {s : Nat} {f : Nat → Int64} (hR : zRp A vK vF vE W s) (hf : zfE L f) (hn : n < A.length) (h6 : (vK n).toInt = 6) (hq : zhd f (zC W (vF n).toNatClampNeg (vE n).toNatClampNeg)) : zOl L A (n + 1) := by
  have z : A[n]? = some A[n] := List.getElem?_eq_getElem hn
  obtain ⟨g1, g2⟩ := hR n _ z
  refine ⟨n, by omega, A[n], z, by omega, ?_⟩
  rw [← (g2 (by omega)).2.2] at hq
  exact (zhd_c hf).mp hq
theorem zok_at {A : zAl} {n : Nat} {vK vF vE : Nat → Int32} {W : Nat → Int} {s : Nat} (hR : zRp A vK vF vE W s) (hA : ∀ e ∈ A, zok e.2) (hn : n < A.length) (h6 : (vK n).toInt = 6) : zok (zC W (vF n).toNatClampNeg (vE n).toNatClampNeg) := by
  have z : A[n]? = some A[n] := List.getElem?_eq_getElem hn
  obtain ⟨g1, g2⟩ := hR n _ z
  rw [← (g2 (by omega)).2.2]
  exact hA _ (List.getElem_mem hn)
/-- some place below n is 1 -/
def zOp (vP : Nat → Int32) (n : Int) : Prop := ∃ p : Nat, ((p : Nat) : Int) < n ∧ (vP p).toInt = 1
/-- the facts of settler p, who has no farm -/
def zLs (vG vA vD vC vU vI vM vW : Nat → Int32) (p : Nat) : List Int := [0, (vG p).toInt, (vA p).toInt, (vD p).toInt, (vC p).toInt, (vU p).toInt, (vI p).toInt, (vM p).toInt, 99, (vW p).toInt]
/-- one below n is not OUT -/
def zNO (Ls : Nat → List Int) (A : zAl) (n : Int) : Prop := ∃ p : Nat, ((p : Nat) : Int) < n ∧ ¬ zOut (Ls p) A
/-- the places below n are 1 where one isn't OUT -/
def zPo (Ls : Nat → List Int) (A : zAl) (vP : Nat → Int32) (n : Nat) : Prop := ∀ j : Nat, j < n → ((vP j).toInt = 1 ∧ ¬ zOut (Ls j) A) ∨ ((vP j).toInt = 0 ∧ zOut (Ls j) A)
theorem zPo_0 {Ls : Nat → List Int} {A : zAl} {vP : Nat → Int32} : zPo Ls A vP 0 := fun j h => absurd h (Nat.not_lt_zero j)
theorem zPo_s {Ls : Nat → List Int} {A : zAl} {vP : Nat → Int32} {n i : Nat} {x : Int32} (h : zPo Ls A vP n) (hi : i = n) (hx : (x.toInt = 1 ∧ ¬ zOut (Ls n) A) ∨ (x.toInt = 0 ∧ zOut (Ls n) A)) : zPo Ls A (cu vP i x) (n + 1) := by
  subst hi
  intro j hj
  by_cases e : j = i
  · rw [cu_s e, e]; exact hx
  · rw [cu_o e]; exact h j (by omega)
theorem zPo.yes {Ls : Nat → List Int} {A : zAl} {vP : Nat → Int32} {n : Nat} {m : Int} (h : zPo Ls A vP n) (hm : m ≤ ((n : Nat) : Int)) (q : zOp vP m) : zNO Ls A m := by
  obtain ⟨p, h1, h2⟩ := q
  rcases h p (by omega) with z | z
  · exact ⟨p, h1, z.2⟩
  · have := z.1; omega
theorem zPo.no {Ls : Nat → List Int} {A : zAl} {vP : Nat → Int32} {n : Nat} {m : Int} (h : zPo Ls A vP n) (hm : m ≤ ((n : Nat) : Int)) (q : ¬ zOp vP m) : ¬ zNO Ls A m := by
  rintro ⟨p, h1, h2⟩
  rcases h p (by omega) with z | z
  · exact q ⟨p, h1, z.1⟩
  · exact h2 z.2
theorem zHb_cu {vH : Nat → Int32} {n : Int} {i : Nat} {x : Int32} (h : zHb vH n) (hx : 0 ≤ x.toInt) : zHb (cu vH i x) n := by
  obtain ⟨p, h1, h2⟩ := h
  by_cases e : p = i
  · exact ⟨p, h1, by rw [cu_s e]; exact hx⟩
  · exact ⟨p, h1, by rw [cu_o e]; exact h2⟩
theorem zHb_at {vH : Nat → Int32} {n : Int} {i : Nat} {x : Int32} (hi : ((i : Nat) : Int) < n) (hx : 0 ≤ x.toInt) : zHb (cu vH i x) n := ⟨i, hi, by rw [cu_s rfl]; exact hx⟩
/-- some place below n is no NONE -/
def zMk (vM : Nat → Int32) (n : Int) : Prop := ∃ p : Nat, ((p : Nat) : Int) < n ∧ (vM p).toInt ≠ -1
/-- the places below n are NONE where one is OUT -/
def zPm (Ls : Nat → List Int) (A : zAl) (vM : Nat → Int32) (n : Nat) : Prop := ∀ j : Nat, j < n → ((vM j).toInt ≠ -1 ∧ ¬ zOut (Ls j) A) ∨ ((vM j).toInt = -1 ∧ zOut (Ls j) A)
theorem zPm_0 {Ls : Nat → List Int} {A : zAl} {vM : Nat → Int32} : zPm Ls A vM 0 := fun j h => absurd h (Nat.not_lt_zero j)
theorem zPm_s {Ls : Nat → List Int} {A : zAl} {vM : Nat → Int32} {n i : Nat} {x : Int32} (h : zPm Ls A vM n) (hi : i = n) (hx : (x.toInt ≠ -1 ∧ ¬ zOut (Ls n) A) ∨ (x.toInt = -1 ∧ zOut (Ls n) A)) : zPm Ls A (cu vM i x) (n + 1) := by
  subst hi
  intro j hj
  by_cases e : j = i
  · rw [cu_s e, e]; exact hx
  · rw [cu_o e]; exact h j (by omega)
theorem zPm.yes {Ls : Nat → List Int} {A : zAl} {vM : Nat → Int32} {n : Nat} {m : Int} (h : zPm Ls A vM n) (hm : m ≤ ((n : Nat) : Int)) (q : zMk vM m) : zNO Ls A m := by
  obtain ⟨p, h1, h2⟩ := q
  rcases h p (by omega) with z | z
  · exact ⟨p, h1, z.2⟩
  · exact absurd z.1 h2
theorem zPm.no {Ls : Nat → List Int} {A : zAl} {vM : Nat → Int32} {n : Nat} {m : Int} (h : zPm Ls A vM n) (hm : m ≤ ((n : Nat) : Int)) (q : ¬ zMk vM m) : ¬ zNO Ls A m := by
  rintro ⟨p, h1, h2⟩
  rcases h p (by omega) with z | z
  · exact q ⟨p, h1, z.1⟩
  · exact h2 z.2
theorem gF.wk {D : va_G} {Sk : Nat → gS} {G : gT} {M : List (Nat × Nat)} {H0 H : Heap} (h : gF D Sk G [] H0 H) : gF D Sk G M H0 H := by
  intro a t ha
  have q := h a t ha
  revert q
  cases Sk t with
  | inl o => exact fun q k hk _ => q k hk List.not_mem_nil
  | inr o => exact fun q _ => q List.not_mem_nil
/-- how many places below n are 1 -/
def zct (v : Nat → Int32) : Nat → Int
  | 0 => 0
  | n + 1 => zct v n + (if (v n).toInt = 1 then 1 else 0)
theorem zct_b {v : Nat → Int32} : ∀ n : Nat, 0 ≤ zct v n ∧ zct v n ≤ ((n : Nat) : Int)
  | 0 => ⟨Int.le_refl _, Int.le_refl _⟩
  | n + 1 => by
    have h := zct_b (v := v) n
    unfold zct
    split <;> omega
theorem zct_o {v : Nat → Int32} {i : Nat} {x : Int32} : ∀ n : Nat, n ≤ i → zct (cu v i x) n = zct v n
  | 0, _ => rfl
  | n + 1, h => by
    unfold zct
    rw [zct_o n (by omega), cu_o (by omega)]
theorem zct_1 {v : Nat → Int32} {i : Nat} {x : Int32} (h0 : (v i).toInt = 0) (hx : x.toInt = 1) : ∀ n : Nat, i < n → zct (cu v i x) n = zct v n + 1
  | 0, h => by omega
  | n + 1, h => by
    unfold zct
    by_cases e : n = i
    · subst e
      rw [zct_o n (Nat.le_refl n), cu_s rfl, if_pos hx, if_neg (by omega)]
      omega
    · rw [zct_1 h0 hx n (by omega), cu_o e]
      omega
theorem zct_0 {v : Nat → Int32} : ∀ n : Nat, zct v n = 0 → (∀ j, j < n → (v j).toInt = 0 ∨ (v j).toInt = 1) → ∀ j, j < n → (v j).toInt = 0
  | 0, _, _, j, hj => absurd hj (Nat.not_lt_zero j)
  | n + 1, h, hb, j, hj => by
    have h : zct v n + (if (v n).toInt = 1 then 1 else 0) = 0 := h
    have b := zct_b (v := v) n
    by_cases q : (v n).toInt = 1
    · rw [if_pos q] at h
      omega
    · rw [if_neg q] at h
      by_cases e : j = n
      · subst e
        exact (hb j hj).resolve_right q
      · exact zct_0 n (by omega) (fun k hk => hb k (by omega)) j (by omega)
