/-- what stands in an array of ints, place by place -/
def ct (H : Heap) (a n : Nat) (V : Nat → Int32) : Prop := ∀ i, i < n → el H a i = some (.int (V i))
def cu (V : Nat → Int32) (i : Nat) (x : Int32) : Nat → Int32 := fun k => if k = i then x else V k
theorem cu_s {V : Nat → Int32} {i k : Nat} {x : Int32} (h : k = i) : cu V i x k = x := if_pos h
theorem cu_o {V : Nat → Int32} {i k : Nat} {x : Int32} (h : k ≠ i) : cu V i x k = V k := if_neg h
theorem ct.kept {H H1 : Heap} {a n : Nat} {V : Nat → Int32} (h : ct H a n V) (e : H1[a]? = H[a]?) : ct H1 a n V := fun i hi => (el_kept e).trans (h i hi)
theorem ct.put {H H1 : Heap} {a n : Nat} {V : Nat → Int32} (h : ct H a n V) {i : Nat} {x : Int32} (e : el H1 a i = some (.int x)) (o : ∀ k, k ≠ i → el H1 a k = el H a k) : ct H1 a n (cu V i x) := by
  intro k hk
  by_cases q : k = i
  · rw [cu_s q, q]; exact e
  · rw [cu_o q]; exact (o k q).trans (h k hk)
theorem ct.at {H : Heap} {a n : Nat} {V : Nat → Int32} (h : ct H a n V) {i : Nat} {x : Int32} (e : el H a i = some (.int x)) (hi : i < n) : x = V i := by
  rw [h i hi] at e
  cases e
  rfl
theorem ct.ext {H : Heap} {a n : Nat} {V W : Nat → Int32} (h : ct H a n V) (e : ∀ i, i < n → V i = W i) : ct H a n W := fun i hi => by rw [← e i hi]; exact h i hi
theorem ct_of {D : va_G} {kA : Nat → ClassId} {Sg : Nat → gS} {G : gT} {H : Heap} {a t j n : Nat} {lo hi : Int} (hT : gH D kA Sg G H) (ha : G a = some t) (hs : Sg t = .inr (j, n, ga (gI lo hi))) : ∃ V : Nat → Int32, ct H a n V ∧ ∀ i, i < n → lo ≤ (V i).toInt ∧ (V i).toInt ≤ hi := by
  have h : ∀ i, i < n → ∃ x : Int32, el H a i = some (.int x) ∧ lo ≤ x.toInt ∧ x.toInt ≤ hi := by
    intro i hi
    obtain ⟨v, e, x, rfl, h1, h2⟩ := gH_el hT ha hs hi
    exact ⟨x, e, h1, h2⟩
  refine ⟨fun i => if q : i < n then Classical.choose (h i q) else 0, fun i hi => ?_, fun i hi => ?_⟩
  · simp only [dif_pos hi]; exact (Classical.choose_spec (h i hi)).1
  · simp only [dif_pos hi]; exact (Classical.choose_spec (h i hi)).2
theorem ct_rng {D : va_G} {kA : Nat → ClassId} {Sg : Nat → gS} {G : gT} {H : Heap} {a t j n : Nat} {lo hi : Int} {V : Nat → Int32} (hT : gH D kA Sg G H) (ha : G a = some t) (hs : Sg t = .inr (j, n, ga (gI lo hi))) (h : ct H a n V) : ∀ i, i < n → lo ≤ (V i).toInt ∧ (V i).toInt ≤ hi := by
  intro i hi
  obtain ⟨v, e, x, rfl, h1, h2⟩ := gH_el hT ha hs hi
  rw [h i hi] at e
  cases e
  exact ⟨h1, h2⟩
/-- an array whose places below k got a number -/
def flV (V : Nat → Int32) (x : Int32) (k : Nat) : Nat → Int32 := fun j => if j < k then x else V j
theorem fl_0 {V : Nat → Int32} {x : Int32} {i : Nat} : V i = flV V x 0 i := (if_neg (Nat.not_lt_zero i)).symm
theorem fl_s {V : Nat → Int32} {x : Int32} {k i : Nat} : cu (flV V x k) k x i = flV V x (k + 1) i := by
  by_cases e : i = k
  · rw [cu_s e]; exact (if_pos (by omega)).symm
  · rw [cu_o e]; unfold flV
    by_cases q : i < k
    · rw [if_pos q, if_pos (by omega)]
    · rw [if_neg q, if_neg (by omega)]
theorem fl_e {V : Nat → Int32} {x : Int32} {k i : Nat} (h : i < k) : flV V x k i = x := if_pos h
/-- how far a run goes: the first place from p on of which P doesn't hold, or n -/
def ruF (P : Int → Bool) (t : Nat → Int) (n : Nat) : Nat → Nat → Nat
  | 0, p => p
  | f + 1, p => if p < n ∧ P (t p) = true then ruF P t n f (p + 1) else p
def ru (P : Int → Bool) (t : Nat → Int) (n p : Nat) : Nat := ruF P t n (n - p) p
theorem ruF_s {P : Int → Bool} {t : Nat → Int} {n : Nat} : ∀ (f p : Nat), n - p ≤ f → p ≤ n → p ≤ ruF P t n f p ∧ ruF P t n f p ≤ n ∧ (∀ j, p ≤ j → j < ruF P t n f p → P (t j) = true) ∧ (ruF P t n f p < n → P (t (ruF P t n f p)) = false) := by
  intro f
  induction f with
  | zero =>
    intro p h1 h2
    show p ≤ p ∧ p ≤ n ∧ (∀ j, p ≤ j → j < p → P (t j) = true) ∧ (p < n → P (t p) = false)
    exact ⟨Nat.le_refl p, h2, fun j a b => by omega, fun h => by omega⟩
  | succ f ih =>
    intro p h1 h2
    show p ≤ (if p < n ∧ P (t p) = true then ruF P t n f (p + 1) else p) ∧ (if p < n ∧ P (t p) = true then ruF P t n f (p + 1) else p) ≤ n ∧ (∀ j, p ≤ j → j < (if p < n ∧ P (t p) = true then ruF P t n f (p + 1) else p) → P (t j) = true) ∧ ((if p < n ∧ P (t p) = true then ruF P t n f (p + 1) else p) < n → P (t (if p < n ∧ P (t p) = true then ruF P t n f (p + 1) else p)) = false)
    by_cases q : p < n ∧ P (t p) = true
    · rw [if_pos q]
      obtain ⟨a1, a2, a3, a4⟩ := ih (p + 1) (by omega) (by omega)
      refine ⟨by omega, a2, fun j b1 b2 => ?_, a4⟩
      by_cases e : j = p
      · rw [e]; exact q.2
      · exact a3 j (by omega) b2
    · rw [if_neg q]
      refine ⟨Nat.le_refl p, h2, fun j a b => by omega, fun h => ?_⟩
      cases e : P (t p) with
      | false => rfl
      | true => exact absurd ⟨h, e⟩ q
theorem ru_s {P : Int → Bool} {t : Nat → Int} {n p : Nat} (h : p ≤ n) : p ≤ ru P t n p ∧ ru P t n p ≤ n ∧ (∀ j, p ≤ j → j < ru P t n p → P (t j) = true) ∧ (ru P t n p < n → P (t (ru P t n p)) = false) := ruF_s (n - p) p (Nat.le_refl _) h
theorem ru_u {P : Int → Bool} {t : Nat → Int} {n p q : Nat} (h1 : p ≤ q) (h2 : q ≤ n) (h3 : ∀ j, p ≤ j → j < q → P (t j) = true) (h4 : q < n → P (t q) = false) : ru P t n p = q := by
  obtain ⟨a1, a2, a3, a4⟩ := ru_s (P := P) (t := t) (show p ≤ n by omega)
  rcases Nat.lt_trichotomy (ru P t n p) q with h | h | h
  · have b1 := h3 _ a1 h
    rw [a4 (by omega)] at b1
    cases b1
  · exact h
  · have b1 := a3 q h1 h
    rw [h4 (by omega)] at b1
    cases b1
theorem ru_i {P : Int → Bool} {t : Nat → Int} {n p : Nat} (h : p ≤ n) : ru P t n (ru P t n p) = ru P t n p := by
  obtain ⟨a1, a2, a3, a4⟩ := ru_s (P := P) (t := t) h
  exact ru_u (Nat.le_refl _) a2 (fun j b1 b2 => by omega) a4
def spB (v : Int) : Bool := decide (v = 32)
def ltB (v : Int) : Bool := decide (97 ≤ v ∧ v ≤ 122)
def dgB (v : Int) : Bool := decide (48 ≤ v ∧ v ≤ 57)
theorem spB_1 {v : Int} (h : v = 32) : spB v = true := decide_eq_true h
theorem spB_0 {v : Int} (h : v ≠ 32) : spB v = false := decide_eq_false h
theorem ltB_1 {v : Int} (h : 97 ≤ v ∧ v ≤ 122) : ltB v = true := decide_eq_true h
theorem ltB_0 {v : Int} (h : ¬ (97 ≤ v ∧ v ≤ 122)) : ltB v = false := decide_eq_false h
theorem dgB_1 {v : Int} (h : 48 ≤ v ∧ v ≤ 57) : dgB v = true := decide_eq_true h
theorem dgB_0 {v : Int} (h : ¬ (48 ≤ v ∧ v ≤ 57)) : dgB v = false := decide_eq_false h
theorem spB_e {v : Int} (h : spB v = true) : v = 32 := of_decide_eq_true h
theorem ltB_e {v : Int} (h : ltB v = true) : 97 ≤ v ∧ v ≤ 122 := of_decide_eq_true h
theorem dgB_e {v : Int} (h : dgB v = true) : 48 ≤ v ∧ v ≤ 57 := of_decide_eq_true h
theorem spB_n {v : Int} (h : spB v = false) : v ≠ 32 := of_decide_eq_false h
theorem ltB_n {v : Int} (h : ltB v = false) : ¬ (97 ≤ v ∧ v ≤ 122) := of_decide_eq_false h
theorem dgB_n {v : Int} (h : dgB v = false) : ¬ (48 ≤ v ∧ v ≤ 57) := of_decide_eq_false h
/-- a word stands between b and e -/
def wd (L : List Int) (t : Nat → Int) (b e : Nat) : Prop := e = b + L.length ∧ ∀ k, k < L.length → t (b + k) = L.getD k 0
theorem wd.uniq {L M : List Int} {t : Nat → Int} {b e : Nat} (h : wd L t b e) (g : wd M t b e) : L = M := by
  have hl : L.length = M.length := by have := h.1; have := g.1; omega
  refine List.ext_getElem hl (fun k h1 h2 => ?_)
  have a := (h.2 k h1).symm.trans (g.2 k h2)
  rw [List.getD_eq_getElem?_getD, List.getD_eq_getElem?_getD, List.getElem?_eq_getElem h1, List.getElem?_eq_getElem h2] at a
  exact a
def WT : List (List Int × Int) := [([97, 99, 114, 101, 115], 0), ([103, 97, 105, 110], 1), ([97, 103, 101], 2), ([115, 111, 110, 115], 3), ([99, 111, 105, 110], 4), ([99, 97, 116, 116, 108, 101], 5), ([107, 105, 110], 6), ([98, 111, 97, 114, 100], 7), ([110, 101, 97, 114], 8), ([111, 119, 101, 115], 9), ([100, 117, 101, 115], 30), ([118, 111, 116, 101, 115], 32), ([102, 105, 110, 101], 33), ([109, 97, 114, 107], 34), ([99, 97, 108, 108], 35), ([111, 117, 116], 36), ([108, 101, 118, 101, 108], 37), ([112, 97, 115, 115], 38), ([98, 97, 114], 39), ([105, 102], 19), ([105, 110], 20), ([110, 111, 116], 13), ([97, 110, 100], 14), ([111, 114], 15)]
theorem WT_u : ∀ w ∈ WT, ∀ v ∈ WT, w.1 = v.1 → w.2 = v.2 := by decide +kernel
theorem WT_c : ∀ w ∈ WT, 0 ≤ w.2 ∧ w.2 ≤ 39 ∧ w.2 ≠ 21 ∧ w.2 ≠ 22 ∧ w.2 ≠ 10 ∧ w.2 ≠ 11 ∧ w.2 ≠ 12 ∧ w.2 ≠ 16 ∧ w.2 ≠ 17 ∧ w.2 ≠ 18 := by decide +kernel
noncomputable def wk (t : Nat → Int) (b e : Nat) : Int := match WT.find? (fun w => @decide (wd w.1 t b e) (Classical.propDecidable _)) with
  | some w => w.2
  | none => 22
theorem wk_1 {t : Nat → Int} {b e : Nat} {w : List Int × Int} (hw : w ∈ WT) (h : wd w.1 t b e) : wk t b e = w.2 := by
  unfold wk
  cases q : WT.find? (fun w => @decide (wd w.1 t b e) (Classical.propDecidable _)) with
  | none => exact absurd (@decide_eq_true _ (Classical.propDecidable _) h) (List.find?_eq_none.mp q w hw)
  | some v =>
    have v1 := List.mem_of_find?_eq_some q
    have v2 : wd v.1 t b e := @of_decide_eq_true _ (Classical.propDecidable _) (show @decide (wd v.1 t b e) (Classical.propDecidable _) = true from List.find?_some (p := fun w : List Int × Int => @decide (wd w.1 t b e) (Classical.propDecidable _)) q)
    exact WT_u v v1 w hw (v2.uniq h)
theorem wk_0 {t : Nat → Int} {b e : Nat} (h : ∀ w ∈ WT, ¬ wd w.1 t b e) : wk t b e = 22 := by
  unfold wk
  cases q : WT.find? (fun w => @decide (wd w.1 t b e) (Classical.propDecidable _)) with
  | none => rfl
  | some v => exact absurd (@of_decide_eq_true _ (Classical.propDecidable _) (show @decide (wd v.1 t b e) (Classical.propDecidable _) = true from List.find?_some (p := fun w : List Int × Int => @decide (wd w.1 t b e) (Classical.propDecidable _)) q)) (h v (List.mem_of_find?_eq_some q))
theorem wk_e {t : Nat → Int} {b e : Nat} {w : List Int × Int} (hw : w ∈ WT) (h : wk t b e = w.2) (hd : ∀ v ∈ WT, v.2 = w.2 → v.1 = w.1) (h2 : w.2 ≠ 22) : wd w.1 t b e := by
  unfold wk at h
  cases q : WT.find? (fun w => @decide (wd w.1 t b e) (Classical.propDecidable _)) with
  | none => rw [q] at h; exact absurd h.symm h2
  | some v =>
    rw [q] at h
    rw [← hd v (List.mem_of_find?_eq_some q) h]
    exact @of_decide_eq_true _ (Classical.propDecidable _) (show @decide (wd v.1 t b e) (Classical.propDecidable _) = true from List.find?_some (p := fun w : List Int × Int => @decide (wd w.1 t b e) (Classical.propDecidable _)) q)
theorem wk_c {t : Nat → Int} {b e : Nat} : (∃ w ∈ WT, wk t b e = w.2) ∨ wk t b e = 22 := by
  unfold wk
  cases q : WT.find? (fun w => @decide (wd w.1 t b e) (Classical.propDecidable _)) with
  | none => exact Or.inr rfl
  | some v => exact Or.inl ⟨v, List.mem_of_find?_eq_some q, rfl⟩
/-- the number that the digits from b on make -/
def nv (t : Nat → Int) (b : Nat) : Nat → Int
  | 0 => 0
  | k + 1 => nv t b k * 10 + t (b + k) - 48
def sgT (v : Int) : Int := if v = 43 then 10 else if v = 60 then 11 else if v = 62 then 12 else if v = 40 then 16 else if v = 41 then 17 else if v = 59 then 18 else 22
/-- what stands at b: the class's number for it -/
noncomputable def kd (t : Nat → Int) (n b : Nat) : Int := if n ≤ b then 21 else if ltB (t b) = true then wk t b (ru ltB t n b) else if dgB (t b) = true then (if 5 < ru dgB t n b - b then 22 else 40 + nv t b (ru dgB t n b - b)) else sgT (t b)
def te (t : Nat → Int) (n b : Nat) : Nat := if ltB (t b) = true then ru ltB t n b else if dgB (t b) = true then ru dgB t n b else b + 1
/-- where the next thing begins -/
def xn (t : Nat → Int) (n b : Nat) : Nat := ru spB t n (te t n b)
def skp (t : Nat → Int) (n p : Nat) : Nat := ru spB t n p
theorem kd_e {t : Nat → Int} {n b : Nat} (h : n ≤ b) : kd t n b = 21 := if_pos h
theorem kd_w {t : Nat → Int} {n b : Nat} (h : b < n) (h1 : ltB (t b) = true) : kd t n b = wk t b (ru ltB t n b) := by
  unfold kd
  rw [if_neg (by omega), if_pos h1]
theorem kd_d {t : Nat → Int} {n b : Nat} (h : b < n) (h1 : ltB (t b) = false) (h2 : dgB (t b) = true) : kd t n b = if 5 < ru dgB t n b - b then 22 else 40 + nv t b (ru dgB t n b - b) := by
  unfold kd
  rw [if_neg (by omega), if_neg (by rw [h1]; decide), if_pos h2]
theorem kd_s {t : Nat → Int} {n b : Nat} (h : b < n) (h1 : ltB (t b) = false) (h2 : dgB (t b) = false) : kd t n b = sgT (t b) := by
  unfold kd
  rw [if_neg (by omega), if_neg (by rw [h1]; decide), if_neg (by rw [h2]; decide)]
theorem te_w {t : Nat → Int} {n b : Nat} (h1 : ltB (t b) = true) : te t n b = ru ltB t n b := if_pos h1
theorem te_d {t : Nat → Int} {n b : Nat} (h1 : ltB (t b) = false) (h2 : dgB (t b) = true) : te t n b = ru dgB t n b := by
  unfold te
  rw [if_neg (by rw [h1]; decide), if_pos h2]
theorem te_s {t : Nat → Int} {n b : Nat} (h1 : ltB (t b) = false) (h2 : dgB (t b) = false) : te t n b = b + 1 := by
  unfold te
  rw [if_neg (by rw [h1]; decide), if_neg (by rw [h2]; decide)]
theorem dg_lt {v : Int} (h : dgB v = true) : ltB v = false := ltB_0 (fun q => by have := dgB_e h; omega)
theorem ru_m {P : Int → Bool} {t : Nat → Int} {n b : Nat} (h : b < n) (h1 : P (t b) = true) : b + 1 ≤ ru P t n b := by
  obtain ⟨a1, a2, a3, a4⟩ := ru_s (P := P) (t := t) (show b ≤ n by omega)
  rcases Nat.lt_or_ge b (ru P t n b) with q | q
  · omega
  · have e : ru P t n b = b := by omega
    have z := a4 (by omega)
    rw [e, h1] at z
    cases z
theorem te_b {t : Nat → Int} {n b : Nat} (h : b < n) : b + 1 ≤ te t n b ∧ te t n b ≤ n := by
  cases h1 : ltB (t b) with
  | true => rw [te_w h1]; exact ⟨ru_m h h1, (ru_s (by omega)).2.1⟩
  | false =>
    cases h2 : dgB (t b) with
    | true => rw [te_d h1 h2]; exact ⟨ru_m h h2, (ru_s (by omega)).2.1⟩
    | false => rw [te_s h1 h2]; omega
theorem xn_b {t : Nat → Int} {n b : Nat} (h : b < n) : b + 1 ≤ xn t n b ∧ xn t n b ≤ n := by
  have a := te_b (t := t) h
  have c := ru_s (P := spB) (t := t) a.2
  exact ⟨Nat.le_trans a.1 c.1, c.2.1⟩
theorem nv_b {t : Nat → Int} {b : Nat} : ∀ k : Nat, (∀ j, j < k → 48 ≤ t (b + j) ∧ t (b + j) ≤ 57) → 0 ≤ nv t b k
  | 0, _ => Int.le_refl 0
  | k + 1, h => by
    have a := nv_b k (fun j hj => h j (by omega))
    have c := h k (by omega)
    show 0 ≤ nv t b k * 10 + t (b + k) - 48
    omega
theorem kd_21 {t : Nat → Int} {n b : Nat} (h : kd t n b = 21) : n ≤ b := by
  rcases Nat.lt_or_ge b n with q | q
  · exfalso
    cases h1 : ltB (t b) with
    | true =>
      rw [kd_w q h1] at h
      rcases wk_c (t := t) (b := b) (e := ru ltB t n b) with ⟨w, w1, w2⟩ | w2
      · have := WT_c w w1; omega
      · omega
    | false =>
      cases h2 : dgB (t b) with
      | true =>
        rw [kd_d q h1 h2] at h
        by_cases z : 5 < ru dgB t n b - b
        · rw [if_pos z] at h; omega
        · rw [if_neg z] at h
          have := nv_b (t := t) (b := b) (ru dgB t n b - b) (fun j hj => dgB_e ((ru_s (P := dgB) (t := t) (show b ≤ n by omega)).2.2.1 (b + j) (by omega) (by omega)))
          omega
      | false =>
        rw [kd_s q h1 h2] at h
        unfold sgT at h
        (repeat' split at h) <;> omega
  · exact q
/-- the grammar, over what stands where (K) and where the next thing begins (X): r is 1 or 0, f where it goes on, or the first wrong one -/
def pR (K : Nat → Int) (X : Nat → Nat) (b : Nat) (r : Int) (f : Nat) : Prop := ((K b < 10 ∨ 40 ≤ K b) ∧ r = 1 ∧ f = X b) ∨ (¬ (K b < 10 ∨ 40 ≤ K b) ∧ r = 0 ∧ f = b)
def tR (K : Nat → Int) (X : Nat → Nat) (c : Int) (b : Nat) (r : Int) (f : Nat) : Prop := (K b = c ∧ r = 1 ∧ f = X b) ∨ (K b ≠ c ∧ r = 0 ∧ f = b)
def nR (K : Nat → Int) (X : Nat → Nat) (h : Int) (b : Nat) (r : Int) (f : Nat) : Prop := ((40 ≤ K b ∧ K b ≤ 40 + h) ∧ r = 1 ∧ f = X b) ∨ (¬ (40 ≤ K b ∧ K b ≤ 40 + h) ∧ r = 0 ∧ f = b)
abbrev gP9 : Type := Nat → Int → Nat → Prop
def sq (P Q : gP9) (b : Nat) (r : Int) (f : Nat) : Prop := (P b 0 f ∧ r = 0) ∨ ∃ b1, P b 1 b1 ∧ Q b1 r f
def lpF (K : Nat → Int) (X : Nat → Nat) (P : gP9) (c : Int) : Nat → gP9
  | 0 => fun _ _ _ => False
  | m + 1 => fun b r f => (P b 0 f ∧ r = 0) ∨ ∃ b1, P b 1 b1 ∧ ((K b1 ≠ c ∧ r = 1 ∧ f = b1) ∨ (K b1 = c ∧ lpF K X P c m (X b1) r f))
def lpR (K : Nat → Int) (X : Nat → Nat) (P : gP9) (c : Int) : gP9 := fun b r f => ∃ m, lpF K X P c m b r f
/-- behind a part that was read -/
def lpQ (K : Nat → Int) (X : Nat → Nat) (P : gP9) (c : Int) : gP9 := fun b r f => (K b ≠ c ∧ r = 1 ∧ f = b) ∨ (K b = c ∧ lpR K X P c (X b) r f)
theorem lp_0 {K : Nat → Int} {X : Nat → Nat} {P : gP9} {c : Int} {b f : Nat} (h : P b 0 f) : lpR K X P c b 0 f := ⟨1, Or.inl ⟨h, rfl⟩⟩
theorem lp_1 {K : Nat → Int} {X : Nat → Nat} {P : gP9} {c : Int} {b b1 : Nat} (h : P b 1 b1) : ∀ r f, lpQ K X P c b1 r f → lpR K X P c b r f := by
  intro r f q
  rcases q with q | ⟨q, m, z⟩
  · exact ⟨1, Or.inr ⟨b1, h, Or.inl q⟩⟩
  · exact ⟨m + 1, Or.inr ⟨b1, h, Or.inr ⟨q, z⟩⟩⟩
theorem lp_s {K : Nat → Int} {X : Nat → Nat} {P : gP9} {c : Int} {b b1 b2 : Nat} (h : ∀ r f, lpQ K X P c b1 r f → lpR K X P c b r f) (hk : K b1 = c) (hp : P (X b1) 1 b2) : ∀ r f, lpQ K X P c b2 r f → lpR K X P c b r f := fun r f q => h r f (Or.inr ⟨hk, lp_1 hp r f q⟩)
theorem lp_f {K : Nat → Int} {X : Nat → Nat} {P : gP9} {c : Int} {b b1 f : Nat} (h : ∀ r f, lpQ K X P c b1 r f → lpR K X P c b r f) (hk : K b1 = c) (hp : P (X b1) 0 f) : lpR K X P c b 0 f := h 0 f (Or.inr ⟨hk, lp_0 hp⟩)
theorem lp_e {K : Nat → Int} {X : Nat → Nat} {P : gP9} {c : Int} {b b1 : Nat} (h : ∀ r f, lpQ K X P c b1 r f → lpR K X P c b r f) (hk : K b1 ≠ c) : lpR K X P c b 1 b1 := h 1 b1 (Or.inl ⟨hk, rfl, rfl⟩)
def gU1 (P : gP9) : Prop := ∀ b r f r1 f1, P b r f → P b r1 f1 → r = r1 ∧ f = f1
theorem pR_u {K : Nat → Int} {X : Nat → Nat} : gU1 (pR K X) := by
  intro b r f r1 f1 h g
  rcases h with ⟨h0, h1, h2⟩ | ⟨h0, h1, h2⟩ <;> rcases g with ⟨g0, g1, g2⟩ | ⟨g0, g1, g2⟩ <;> omega
theorem tR_u {K : Nat → Int} {X : Nat → Nat} {c : Int} : gU1 (tR K X c) := by
  intro b r f r1 f1 h g
  rcases h with ⟨h0, h1, h2⟩ | ⟨h0, h1, h2⟩ <;> rcases g with ⟨g0, g1, g2⟩ | ⟨g0, g1, g2⟩ <;> omega
theorem nR_u {K : Nat → Int} {X : Nat → Nat} {c : Int} : gU1 (nR K X c) := by
  intro b r f r1 f1 h g
  rcases h with ⟨h0, h1, h2⟩ | ⟨h0, h1, h2⟩ <;> rcases g with ⟨g0, g1, g2⟩ | ⟨g0, g1, g2⟩ <;> omega
theorem sq_u {P Q : gP9} (hP : gU1 P) (hQ : gU1 Q) : gU1 (sq P Q) := by
  intro b r f r1 f1 h g
  rcases h with ⟨h0, h1⟩ | ⟨b1, h0, h1⟩ <;> rcases g with ⟨g0, g1⟩ | ⟨b2, g0, g1⟩
  · have := hP _ _ _ _ _ h0 g0; omega
  · have := hP _ _ _ _ _ h0 g0; omega
  · have := hP _ _ _ _ _ h0 g0; omega
  · obtain ⟨-, rfl⟩ := hP _ _ _ _ _ h0 g0; exact hQ _ _ _ _ _ h1 g1
theorem lpF_u {K : Nat → Int} {X : Nat → Nat} {P : gP9} {c : Int} (hP : gU1 P) : ∀ (m m1 b : Nat) (r : Int) (f : Nat) (r1 : Int) (f1 : Nat), lpF K X P c m b r f → lpF K X P c m1 b r1 f1 → r = r1 ∧ f = f1 := by
  intro m
  induction m with
  | zero => intro m1 b r f r1 f1 h _; exact absurd h (fun z => z)
  | succ m ih =>
    intro m1 b r f r1 f1 h g
    cases m1 with
    | zero => exact absurd g (fun z => z)
    | succ m1 =>
      rcases h with ⟨h0, h1⟩ | ⟨b1, h0, h1⟩ <;> rcases g with ⟨g0, g1⟩ | ⟨b2, g0, g1⟩
      · have := hP _ _ _ _ _ h0 g0; omega
      · have := hP _ _ _ _ _ h0 g0; omega
      · have := hP _ _ _ _ _ h0 g0; omega
      · obtain ⟨-, rfl⟩ := hP _ _ _ _ _ h0 g0
        rcases h1 with ⟨h1, h2, h3⟩ | ⟨h1, h2⟩ <;> rcases g1 with ⟨g1, g2, g3⟩ | ⟨g1, g2⟩
        · omega
        · exact absurd g1 h1
        · exact absurd h1 g1
        · exact ih _ _ _ _ _ _ h2 g2
theorem lp_u {K : Nat → Int} {X : Nat → Nat} {P : gP9} {c : Int} (hP : gU1 P) : gU1 (lpR K X P c) := by
  intro b r f r1 f1 ⟨m, h⟩ ⟨m1, g⟩
  exact lpF_u hP m m1 b r f r1 f1 h g
def smR (K : Nat → Int) (X : Nat → Nat) : gP9 := lpR K X (pR K X) 10
def opR (K : Nat → Int) (X : Nat → Nat) : gP9 := fun b r f => ((K b = 11 ∨ K b = 12) ∧ r = 1 ∧ f = X b) ∨ (¬ (K b = 11 ∨ K b = 12) ∧ r = 0 ∧ f = b)
def cmR (K : Nat → Int) (X : Nat → Nat) : gP9 := sq (smR K X) (sq (opR K X) (smR K X))
def coR (K : Nat → Int) (X : Nat → Nat) (P : gP9) : gP9 := lpR K X (lpR K X P 14) 15
/-- so many ( and not may still come within one another -/
def aR (K : Nat → Int) (X : Nat → Nat) : Nat → gP9
  | 0 => fun b r f => ((K b = 16 ∨ K b = 13) ∧ r = 0 ∧ f = b) ∨ (¬ (K b = 16 ∨ K b = 13) ∧ cmR K X b r f)
  | d + 1 => fun b r f => (K b = 13 ∧ aR K X d (X b) r f) ∨ (K b = 16 ∧ sq (coR K X (aR K X d)) (tR K X 17) (X b) r f) ∨ (¬ (K b = 16 ∨ K b = 13) ∧ cmR K X b r f)
theorem opR_u {K : Nat → Int} {X : Nat → Nat} : gU1 (opR K X) := by
  intro b r f r1 f1 h g
  rcases h with ⟨h0, h1, h2⟩ | ⟨h0, h1, h2⟩ <;> rcases g with ⟨g0, g1, g2⟩ | ⟨g0, g1, g2⟩ <;> omega
theorem cmR_u {K : Nat → Int} {X : Nat → Nat} : gU1 (cmR K X) := sq_u (lp_u pR_u) (sq_u opR_u (lp_u pR_u))
theorem aR_u {K : Nat → Int} {X : Nat → Nat} : ∀ d : Nat, gU1 (aR K X d) := by
  intro d
  induction d with
  | zero =>
    intro b r f r1 f1 h g
    rcases h with ⟨h0, h1, h2⟩ | ⟨h0, h1⟩ <;> rcases g with ⟨g0, g1, g2⟩ | ⟨g0, g1⟩
    · omega
    · exact absurd h0 g0
    · exact absurd g0 h0
    · exact cmR_u _ _ _ _ _ h1 g1
  | succ d ih =>
    intro b r f r1 f1 h g
    rcases h with ⟨h0, h1⟩ | ⟨h0, h1⟩ | ⟨h0, h1⟩ <;> rcases g with ⟨g0, g1⟩ | ⟨g0, g1⟩ | ⟨g0, g1⟩ <;> first | (exfalso; omega) | exact ih _ _ _ _ _ h1 g1 | exact cmR_u _ _ _ _ _ h1 g1 | exact sq_u (lp_u (lp_u ih)) tR_u _ _ _ _ _ h1 g1
def cdR (K : Nat → Int) (X : Nat → Nat) : gP9 := coR K X (aR K X 6)
def ifR (K : Nat → Int) (X : Nat → Nat) : gP9 := fun b r f => (K b ≠ 19 ∧ r = 1 ∧ f = b) ∨ (K b = 19 ∧ cdR K X (X b) r f)
def lkT (v : Int) : Int := if v = 1 then 1 else if 30 ≤ v ∧ v ≤ 39 then v - 30 else -1
def lvR (K : Nat → Int) (X : Nat → Nat) : gP9 := sq (nR K X 900) (sq (nR K X 900) (sq (tR K X 20) (sq (nR K X 95) (nR K X 95))))
def lnR (K : Nat → Int) (X : Nat → Nat) : gP9 := fun b r f => (lkT (K b) = -1 ∧ r = 0 ∧ f = b) ∨ (lkT (K b) = 7 ∧ lvR K X (X b) r f) ∨ (lkT (K b) = 8 ∧ nR K X 100 (X b) r f) ∨ (lkT (K b) = 9 ∧ nR K X 18 (X b) r f) ∨ ((lkT (K b) = 5 ∨ lkT (K b) = 6) ∧ ifR K X (X b) r f) ∨ ((0 ≤ lkT (K b) ∧ lkT (K b) ≤ 4) ∧ sq (nR K X 99999) (ifR K X) (X b) r f)
theorem ifR_u {K : Nat → Int} {X : Nat → Nat} : gU1 (ifR K X) := by
  intro b r f r1 f1 h g
  rcases h with ⟨h0, h1, h2⟩ | ⟨h0, h1⟩ <;> rcases g with ⟨g0, g1, g2⟩ | ⟨g0, g1⟩
  · omega
  · exact absurd g0 h0
  · exact absurd h0 g0
  · exact lp_u (lp_u (aR_u 6)) _ _ _ _ _ h1 g1
theorem lnR_u {K : Nat → Int} {X : Nat → Nat} : gU1 (lnR K X) := by
  intro b r f r1 f1 h g
  have u7 : gU1 (lvR K X) := sq_u nR_u (sq_u nR_u (sq_u tR_u (sq_u nR_u nR_u)))
  have u5 : gU1 (sq (nR K X 99999) (ifR K X)) := sq_u nR_u ifR_u
  rcases h with ⟨h0, h1, h2⟩ | ⟨h0, h1⟩ | ⟨h0, h1⟩ | ⟨h0, h1⟩ | ⟨h0, h1⟩ | ⟨h0, h1⟩ <;> rcases g with ⟨g0, g1, g2⟩ | ⟨g0, g1⟩ | ⟨g0, g1⟩ | ⟨g0, g1⟩ | ⟨g0, g1⟩ | ⟨g0, g1⟩ <;> first | (exfalso; omega) | omega | exact u7 _ _ _ _ _ h1 g1 | exact nR_u _ _ _ _ _ h1 g1 | exact ifR_u _ _ _ _ _ h1 g1 | exact u5 _ _ _ _ _ h1 g1
/-- the lines: k of them stand; c: how many there are then, or -1; f: the first wrong byte, or -1 -/
def lwF (K : Nat → Int) (X : Nat → Nat) : Nat → Nat → Nat → Int → Int → Prop
  | 0 => fun _ _ _ _ => False
  | m + 1 => fun k b c f => (20 ≤ k ∧ c = -1 ∧ f = ((b : Nat) : Int)) ∨ (k < 20 ∧ ((∃ z, lnR K X b 0 z ∧ c = -1 ∧ f = ((z : Nat) : Int)) ∨ ∃ b1, lnR K X b 1 b1 ∧ ((K b1 = 18 ∧ lwF K X m (k + 1) (X b1) c f) ∨ (K b1 = 21 ∧ c = ((k : Nat) : Int) + 1 ∧ f = -1) ∨ (K b1 ≠ 18 ∧ K b1 ≠ 21 ∧ c = -1 ∧ f = ((b1 : Nat) : Int)))))
def lwR (K : Nat → Int) (X : Nat → Nat) (k b : Nat) (c f : Int) : Prop := ∃ m, lwF K X m k b c f
theorem lwF_u {K : Nat → Int} {X : Nat → Nat} : ∀ (m m1 k b : Nat) (c f c1 f1 : Int), lwF K X m k b c f → lwF K X m1 k b c1 f1 → c = c1 ∧ f = f1 := by
  intro m
  induction m with
  | zero => intro m1 k b c f c1 f1 h _; exact absurd h (fun z => z)
  | succ m ih =>
    intro m1 k b c f c1 f1 h g
    cases m1 with
    | zero => exact absurd g (fun z => z)
    | succ m1 =>
      rcases h with ⟨h0, h1, h2⟩ | ⟨h0, h1⟩ <;> rcases g with ⟨g0, g1, g2⟩ | ⟨g0, g1⟩
      · omega
      · omega
      · omega
      · rcases h1 with ⟨z, h1, h2, h3⟩ | ⟨b1, h1, h2⟩ <;> rcases g1 with ⟨y, g1, g2, g3⟩ | ⟨b2, g1, g2⟩
        · have := lnR_u _ _ _ _ _ h1 g1; omega
        · have := lnR_u _ _ _ _ _ h1 g1; omega
        · have := lnR_u _ _ _ _ _ h1 g1; omega
        · obtain ⟨-, rfl⟩ := lnR_u _ _ _ _ _ h1 g1
          rcases h2 with ⟨h2, h3⟩ | ⟨h2, h3, h4⟩ | ⟨h2, h3, h4, h5⟩ <;> rcases g2 with ⟨g2, g3⟩ | ⟨g2, g3, g4⟩ | ⟨g2, g3, g4, g5⟩ <;> first | exact ih _ _ _ _ _ _ _ h3 g3 | omega
/-- the whole text -/
def laR (t : Nat → Int) (n : Nat) (c f : Int) : Prop := (skp t n 0 = n ∧ c = 0 ∧ f = -1) ∨ (skp t n 0 ≠ n ∧ lwR (kd t n) (xn t n) 0 (skp t n 0) c f)
theorem laR_u {t : Nat → Int} {n : Nat} {c f c1 f1 : Int} (h : laR t n c f) (g : laR t n c1 f1) : c = c1 ∧ f = f1 := by
  rcases h with ⟨h0, h1, h2⟩ | ⟨h0, m, h1⟩ <;> rcases g with ⟨g0, g1, g2⟩ | ⟨g0, m1, g1⟩
  · omega
  · exact absurd h0 g0
  · exact absurd g0 h0
  · exact lwF_u _ _ _ _ _ _ _ _ h1 g1
noncomputable def laE (t : Nat → Int) (n : Nat) : Int × Int := Classical.epsilon (fun z : Int × Int => laR t n z.1 z.2)
theorem laE_s {t : Nat → Int} {n : Nat} {c f : Int} (h : laR t n c f) : c = (laE t n).1 ∧ f = (laE t n).2 := by
  have q : laR t n (laE t n).1 (laE t n).2 := Classical.epsilon_spec (p := fun z : Int × Int => laR t n z.1 z.2) ⟨(c, f), h⟩
  exact laR_u h q
def sWl : List (List Int) := [[97, 99, 114, 101, 115], [103, 97, 105, 110], [97, 103, 101], [115, 111, 110, 115], [99, 111, 105, 110], [99, 97, 116, 116, 108, 101], [107, 105, 110], [98, 111, 97, 114, 100], [110, 101, 97, 114], [111, 119, 101, 115], [110, 111, 116], [97, 110, 100], [111, 114], [105, 110], [100, 117, 101, 115], [118, 111, 116, 101, 115], [102, 105, 110, 101], [109, 97, 114, 107], [99, 97, 108, 108], [111, 117, 116], [108, 101, 118, 101, 108], [112, 97, 115, 115], [98, 97, 114], [105, 102], [105, 102], [105, 110], [110, 111, 116], [97, 110, 100], [111, 114], [97, 99, 114, 101, 115], [103, 97, 105, 110], [97, 103, 101], [115, 111, 110, 115], [99, 111, 105, 110], [99, 97, 116, 116, 108, 101], [107, 105, 110], [98, 111, 97, 114, 100], [110, 101, 97, 114], [111, 119, 101, 115], [100, 117, 101, 115], [118, 111, 116, 101, 115], [102, 105, 110, 101], [109, 97, 114, 107], [99, 97, 108, 108], [111, 117, 116], [108, 101, 118, 101, 108], [112, 97, 115, 115], [98, 97, 114]]
def sW (i : Nat) : List Int := sWl.getD i []
def sCl : List Int := [0, 1, 2, 3, 4, 5, 6, 7, 8, 9, 13, 14, 15, 20, 30, 32, 33, 34, 35, 36, 37, 38, 39, 19, 19, 20, 13, 14, 15, 0, 1, 2, 3, 4, 5, 6, 7, 8, 9, 30, 32, 33, 34, 35, 36, 37, 38, 39]
def sC (i : Nat) : Int := sCl.getD i 22
/-- the text that an array holds -/
def tx (V : Nat → Int32) : Nat → Int := fun k => (V k).toInt
theorem sW_l {i : Nat} (h : i < 48) : (sW i).length = sLn i := by
  revert i
  decide
theorem sW_in {i : Nat} (h : i < 48) : (sW i, sC i) ∈ WT := by
  revert i
  decide +kernel
theorem sW_u : ∀ v ∈ WT, ∀ i, i < 48 → v.2 = sC i → v.1 = sW i := by decide +kernel
/-- a word that stands there -/
theorem pw_1 {t : Nat → Int} {n b i : Nat} (hi : i < 48) (hb : b ≤ n) (h : wd (sW i) t b (ru ltB t n b)) : kd t n b = sC i ∧ te t n b = ru ltB t n b := by
  obtain ⟨a1, a2, a3, a4⟩ := ru_s (P := ltB) (t := t) hb
  have l1 := sW_l hi
  have l2 := sLn_b hi
  have e := h.1
  have hl := a3 b (Nat.le_refl b) (by omega)
  exact ⟨(kd_w (by omega) hl).trans (wk_1 (sW_in hi) h), te_w hl⟩
theorem kd_c {t : Nat → Int} {n b i : Nat} (hi : i < 48) (h : kd t n b = sC i) : b < n ∧ ltB (t b) = true := by
  have c := WT_c _ (sW_in hi)
  have c1 : 0 ≤ sC i ∧ sC i ≤ 39 ∧ sC i ≠ 21 ∧ sC i ≠ 22 ∧ sC i ≠ 10 ∧ sC i ≠ 11 ∧ sC i ≠ 12 ∧ sC i ≠ 16 ∧ sC i ≠ 17 ∧ sC i ≠ 18 := c
  rcases Nat.lt_or_ge b n with q | q
  · refine ⟨q, ?_⟩
    cases h1 : ltB (t b) with
    | true => rfl
    | false =>
      exfalso
      cases h2 : dgB (t b) with
      | true =>
        rw [kd_d q h1 h2] at h
        by_cases z : 5 < ru dgB t n b - b
        · rw [if_pos z] at h; omega
        · rw [if_neg z] at h
          have := nv_b (t := t) (b := b) (ru dgB t n b - b) (fun j hj => dgB_e ((ru_s (P := dgB) (t := t) (show b ≤ n by omega)).2.2.1 (b + j) (by omega) (by omega)))
          omega
      | false =>
        rw [kd_s q h1 h2] at h
        unfold sgT at h
        (repeat' split at h) <;> omega
  · rw [kd_e q] at h; omega
theorem pw_0 {t : Nat → Int} {n b i : Nat} (hi : i < 48) (h : ¬ wd (sW i) t b (ru ltB t n b)) : kd t n b ≠ sC i := by
  intro e
  obtain ⟨q1, q2⟩ := kd_c hi e
  rw [kd_w q1 q2] at e
  exact h (wk_e (w := (sW i, sC i)) (sW_in hi) e (fun v hv z => sW_u v hv i hi z) (WT_c _ (sW_in hi)).2.2.2.1)
/-- a sign that stands there -/
def sgS (c : Int) : Prop := c = 43 ∨ c = 60 ∨ c = 62 ∨ c = 40 ∨ c = 41 ∨ c = 59
theorem sgS_n {c : Int} (h : sgS c) : ltB c = false ∧ dgB c = false := by
  rcases h with rfl | rfl | rfl | rfl | rfl | rfl <;> decide
theorem sg_1 {t : Nat → Int} {n b : Nat} {c : Int} (hc : sgS c) (hb : b < n) (h : t b = c) : kd t n b = sgT c ∧ te t n b = b + 1 := by
  obtain ⟨h1, h2⟩ := sgS_n hc
  rw [← h] at h1 h2
  exact ⟨(kd_s hb h1 h2).trans (by rw [h]), te_s h1 h2⟩
theorem sgT_u {c v : Int} (hc : sgS c) (h : sgT v = sgT c) : v = c := by
  rcases hc with rfl | rfl | rfl | rfl | rfl | rfl <;> unfold sgT at h <;> (repeat' split at h) <;> omega
theorem sgT_c {c : Int} (hc : sgS c) : sgT c = 10 ∨ sgT c = 11 ∨ sgT c = 12 ∨ sgT c = 16 ∨ sgT c = 17 ∨ sgT c = 18 := by
  rcases hc with rfl | rfl | rfl | rfl | rfl | rfl <;> decide
theorem sg_0 {t : Nat → Int} {n b : Nat} {c : Int} (hc : sgS c) (h : ¬ (b < n ∧ t b = c)) : kd t n b ≠ sgT c := by
  intro e
  have z := sgT_c hc
  rcases Nat.lt_or_ge b n with q | q
  · cases h1 : ltB (t b) with
    | true =>
      rw [kd_w q h1] at e
      rcases wk_c (t := t) (b := b) (e := ru ltB t n b) with ⟨w, w1, w2⟩ | w2
      · have := WT_c w w1; omega
      · omega
    | false =>
      cases h2 : dgB (t b) with
      | true =>
        rw [kd_d q h1 h2] at e
        by_cases y : 5 < ru dgB t n b - b
        · rw [if_pos y] at e; omega
        · rw [if_neg y] at e
          have := nv_b (t := t) (b := b) (ru dgB t n b - b) (fun j hj => dgB_e ((ru_s (P := dgB) (t := t) (show b ≤ n by omega)).2.2.1 (b + j) (by omega) (by omega)))
          omega
      | false =>
        rw [kd_s q h1 h2] at e
        exact h ⟨q, sgT_u hc e⟩
  · rw [kd_e q] at e; omega
/-- a number that stands there -/
theorem nu_0 {t : Nat → Int} {n b : Nat} (hb : b ≤ n) (h : ru dgB t n b = b) : kd t n b < 40 := by
  rcases Nat.lt_or_ge b n with q | q
  · have h2 : dgB (t b) = false := by
      have z := (ru_s (P := dgB) (t := t) hb).2.2.2
      rw [h] at z
      exact z q
    cases h1 : ltB (t b) with
    | true =>
      rw [kd_w q h1]
      rcases wk_c (t := t) (b := b) (e := ru ltB t n b) with ⟨w, w1, w2⟩ | w2
      · have := WT_c w w1; omega
      · omega
    | false =>
      rw [kd_s q h1 h2]
      unfold sgT
      (repeat' split) <;> omega
  · rw [kd_e q]; omega
theorem nu_d {t : Nat → Int} {n b : Nat} (hb : b ≤ n) (h : b < ru dgB t n b) : (5 < ru dgB t n b - b → kd t n b = 22) ∧ (ru dgB t n b - b ≤ 5 → kd t n b = 40 + nv t b (ru dgB t n b - b)) ∧ te t n b = ru dgB t n b := by
  obtain ⟨a1, a2, a3, a4⟩ := ru_s (P := dgB) (t := t) hb
  have h2 := a3 b (Nat.le_refl b) h
  have h1 := dg_lt h2
  refine ⟨fun z => ?_, fun z => ?_, te_d h1 h2⟩
  · rw [kd_d (by omega) h1 h2, if_pos z]
  · rw [kd_d (by omega) h1 h2, if_neg (by omega)]
theorem nv_s1 {t : Nat → Int} {b p : Nat} {v v1 : Int} (hb : b ≤ p) (h5 : p - b < 5) (h : v = nv t b (min (p - b) 5)) (e : v1 = 10 * v + t p - 48) : v1 = nv t b (min (p + 1 - b) 5) := by
  have m1 : min (p - b) 5 = p - b := by omega
  have m2 : min (p + 1 - b) 5 = (p - b) + 1 := by omega
  rw [m1] at h
  rw [m2]
  show v1 = nv t b (p - b) * 10 + t (b + (p - b)) - 48
  rw [show b + (p - b) = p by omega, ← h]
  omega
theorem nv_s2 {t : Nat → Int} {b p : Nat} {v : Int} (h5 : 5 ≤ p - b) (h : v = nv t b (min (p - b) 5)) : v = nv t b (min (p + 1 - b) 5) := by
  rw [show min (p + 1 - b) 5 = min (p - b) 5 by omega]
  exact h
theorem sw_ch {i j : Nat} (hi : i < 48) (hj : j < sLn i) : (((sBy i j &&& 255).toUInt32 % 65536).toInt32).toInt = (sW i).getD j 0 := by
  have h6 : j < 6 := by have := sLn_b hi; omega
  exact (by decide +kernel : ∀ i, i < 48 → ∀ j, j < 6 → j < sLn i → (((sBy i j &&& 255).toUInt32 % 65536).toInt32).toInt = (sW i).getD j 0) i hi j h6 hj
theorem iw_s {T : Nat → Int} {L : List Int} {b i n m : Nat} (h : ∀ j, j < i → T (b + j) = L.getD j 0) (hx : T n = L.getD m 0) (hn : n = b + i) (hm : m = i) : ∀ j, j < i + 1 → T (b + j) = L.getD j 0 := by
  intro j hj
  by_cases e : j = i
  · rw [e, ← hn, ← hm]; exact hx
  · exact h j (by omega)
theorem iw_n {T : Nat → Int} {L : List Int} {b e i n m : Nat} (hx : T n ≠ L.getD m 0) (hn : n = b + i) (hm : m = i) (hi : i < L.length) : ¬ wd L T b e := fun h => hx (by rw [hn, hm]; exact h.2 i hi)
theorem sC_f {i : Nat} (h : i < 10) : sC i < 10 := by
  revert i
  decide
theorem sC_e {i : Nat} (h : i < 10) : sC i = ((i : Nat) : Int) := by
  revert i
  decide
theorem kd_wc {t : Nat → Int} {n b : Nat} (hb : b ≤ n) (h : b < ru ltB t n b) : (∃ w ∈ WT, kd t n b = w.2) ∨ kd t n b = 22 := by
  obtain ⟨a1, a2, a3, a4⟩ := ru_s (P := ltB) (t := t) hb
  rw [kd_w (by omega) (a3 b (Nat.le_refl b) h)]
  exact wk_c
theorem pr_w0 {t : Nat → Int} {n b : Nat} (hb : b ≤ n) (h : b < ru ltB t n b) (hn : ∀ j, j < 10 → ¬ wd (sW j) t b (ru ltB t n b)) : ¬ (kd t n b < 10 ∨ 40 ≤ kd t n b) := by
  intro q
  rcases kd_wc hb h with ⟨w, w1, w2⟩ | w2
  · have c := WT_c w w1
    have k : kd t n b = sC (kd t n b).toNat := by rw [sC_e (by omega)]; omega
    exact pw_0 (i := (kd t n b).toNat) (by omega) (hn _ (by omega)) k
  · omega
theorem nv_h {t : Nat → Int} {b : Nat} : ∀ k : Nat, (∀ j, j < k → 48 ≤ t (b + j) ∧ t (b + j) ≤ 57) → nv t b k + 1 ≤ 10 ^ k
  | 0, _ => by
    show (0 : Int) + 1 ≤ 10 ^ 0
    decide
  | k + 1, h => by
    have a := nv_h k (fun j hj => h j (by omega))
    have c := h k (by omega)
    show nv t b k * 10 + t (b + k) - 48 + 1 ≤ 10 ^ (k + 1)
    rw [Int.pow_succ]
    omega
theorem kd_hi {t : Nat → Int} {n b : Nat} : kd t n b ≤ 100039 := by
  rcases Nat.lt_or_ge b n with q | q
  · cases h1 : ltB (t b) with
    | true =>
      rw [kd_w q h1]
      rcases wk_c (t := t) (b := b) (e := ru ltB t n b) with ⟨w, w1, w2⟩ | w2
      · have := WT_c w w1; omega
      · omega
    | false =>
      cases h2 : dgB (t b) with
      | true =>
        rw [kd_d q h1 h2]
        by_cases z : 5 < ru dgB t n b - b
        · rw [if_pos z]; omega
        · rw [if_neg z]
          have a := nv_h (t := t) (b := b) (ru dgB t n b - b) (fun j hj => dgB_e ((ru_s (P := dgB) (t := t) (show b ≤ n by omega)).2.2.1 (b + j) (by omega) (by omega)))
          have p5 : (10 : Int) ^ (ru dgB t n b - b) ≤ 100000 := by
            rcases (show ru dgB t n b - b = 0 ∨ ru dgB t n b - b = 1 ∨ ru dgB t n b - b = 2 ∨ ru dgB t n b - b = 3 ∨ ru dgB t n b - b = 4 ∨ ru dgB t n b - b = 5 by omega) with e | e | e | e | e | e <;> rw [e] <;> decide
          omega
      | false =>
        rw [kd_s q h1 h2]
        unfold sgT
        (repeat' split) <;> omega
  · rw [kd_e q]; omega
theorem pr_d0 {t : Nat → Int} {n b : Nat} (hb : b ≤ n) (h : ru ltB t n b = b) (h2 : ¬ (40 ≤ kd t n b ∧ kd t n b ≤ 40 + 99999)) : ¬ (kd t n b < 10 ∨ 40 ≤ kd t n b) := by
  have hh := kd_hi (t := t) (n := n) (b := b)
  have lo : 10 ≤ kd t n b := by
    rcases Nat.lt_or_ge b n with q | q
    · have h1 : ltB (t b) = false := by
        have z := (ru_s (P := ltB) (t := t) hb).2.2.2
        rw [h] at z
        exact z q
      cases h3 : dgB (t b) with
      | true =>
        rw [kd_d q h1 h3]
        by_cases z : 5 < ru dgB t n b - b
        · rw [if_pos z]; omega
        · rw [if_neg z]
          have := nv_b (t := t) (b := b) (ru dgB t n b - b) (fun j hj => dgB_e ((ru_s (P := dgB) (t := t) (show b ≤ n by omega)).2.2.1 (b + j) (by omega) (by omega)))
          omega
      | false =>
        rw [kd_s q h1 h3]
        unfold sgT
        (repeat' split) <;> omega
    · rw [kd_e q]; omega
  omega
def soL : List Nat := [14, 1, 15, 16, 17, 18, 19, 20, 21, 22]
theorem so_n {P : Nat → Prop} (h0 : ¬ P 14) (h1 : ¬ P 1) (h2 : ¬ P 15) (h3 : ¬ P 16) (h4 : ¬ P 17) (h5 : ¬ P 18) (h6 : ¬ P 19) (h7 : ¬ P 20) (h8 : ¬ P 21) (h9 : ¬ P 22) : ∀ i ∈ soL, ¬ P i := by
  intro i hi
  simp only [soL, List.mem_cons, List.not_mem_nil, or_false] at hi
  rcases hi with rfl | rfl | rfl | rfl | rfl | rfl | rfl | rfl | rfl | rfl <;> assumption
theorem kd_nw {t : Nat → Int} {n b : Nat} (hb : b ≤ n) (h : ru ltB t n b = b) : (10 ≤ kd t n b ∧ kd t n b < 30) ∨ 40 ≤ kd t n b := by
  rcases Nat.lt_or_ge b n with q | q
  · have h1 : ltB (t b) = false := by
      have z := (ru_s (P := ltB) (t := t) hb).2.2.2
      rw [h] at z
      exact z q
    cases h3 : dgB (t b) with
    | true =>
      rw [kd_d q h1 h3]
      by_cases z : 5 < ru dgB t n b - b
      · rw [if_pos z]; omega
      · rw [if_neg z]
        have := nv_b (t := t) (b := b) (ru dgB t n b - b) (fun j hj => dgB_e ((ru_s (P := dgB) (t := t) (show b ≤ n by omega)).2.2.1 (b + j) (by omega) (by omega)))
        omega
    | false =>
      rw [kd_s q h1 h3]
      unfold sgT
      (repeat' split) <;> omega
  · rw [kd_e q]; omega
theorem lkT_s (v : Int) : (v = 1 ∧ lkT v = 1) ∨ (v ≠ 1 ∧ (30 ≤ v ∧ v ≤ 39) ∧ lkT v = v - 30) ∨ (v ≠ 1 ∧ ¬ (30 ≤ v ∧ v ≤ 39) ∧ lkT v = -1) := by
  unfold lkT
  by_cases q : v = 1
  · exact Or.inl ⟨q, if_pos q⟩
  · rw [if_neg q]
    by_cases z : 30 ≤ v ∧ v ≤ 39
    · exact Or.inr (Or.inl ⟨q, z, if_pos z⟩)
    · exact Or.inr (Or.inr ⟨q, z, if_neg z⟩)
theorem WT_l : ∀ w ∈ WT, lkT w.2 = -1 ∨ ∃ i ∈ soL, w.2 = sC i := by decide +kernel
theorem soL_48 : ∀ i ∈ soL, i < 48 := by decide
/-- which sort the word from b to e names (a name of its own: omega takes an ∃ in the context apart, and fails) -/
def soQ (t : Nat → Int) (b e : Nat) (r : Int) : Prop := (r = -1 ∧ ∀ i ∈ soL, ¬ wd (sW i) t b e) ∨ ∃ i ∈ soL, wd (sW i) t b e ∧ r = lkT (sC i)
theorem so_k {t : Nat → Int} {n b : Nat} {r : Int} (hb : b ≤ n) (h : soQ t b (ru ltB t n b) r) : r = lkT (kd t n b) := by
  unfold soQ at h
  rcases h with ⟨h1, h2⟩ | ⟨i, h1, h2, h3⟩
  · rw [h1]
    obtain ⟨a1, a2, a3, a4⟩ := ru_s (P := ltB) (t := t) hb
    rcases Nat.lt_or_ge b (ru ltB t n b) with q | q
    · rcases kd_wc hb q with ⟨w, w1, w2⟩ | w2
      · rw [w2]
        rcases WT_l w w1 with z | ⟨i, z1, z2⟩
        · exact z.symm
        · exact absurd (w2.trans z2) (pw_0 (soL_48 i z1) (h2 i z1))
      · rw [w2]; decide
    · have := kd_nw (t := t) hb (by omega)
      have := lkT_s (kd t n b)
      omega
  · rw [h3, (pw_1 (soL_48 i h1) hb h2).1]
theorem lk_x {t : Nat → Int} {n b : Nat} (h : lkT (kd t n b) ≠ -1) : te t n b = ru ltB t n b := by
  have l := lkT_s (kd t n b)
  rcases Nat.lt_or_ge b n with q | q
  · cases h1 : ltB (t b) with
    | true => exact te_w h1
    | false =>
      have e : ru ltB t n b = b := ru_u (Nat.le_refl b) (by omega) (fun j a c => by omega) (fun _ => h1)
      have := kd_nw (t := t) (show b ≤ n by omega) e
      omega
  · have := kd_e (t := t) q
    omega
theorem nR_1 {K : Nat → Int} {X : Nat → Nat} {h h' r : Int} {b f : Nat} (e : h' = h) (q : (40 ≤ K b ∧ K b ≤ 40 + h' ∧ r = K b - 40 ∧ f = X b) ∨ (r = -1 ∧ ¬ (40 ≤ K b ∧ K b ≤ 40 + h'))) (hr : 0 ≤ r) : nR K X h b 1 f := by
  rcases q with ⟨q1, q2, q3, q4⟩ | ⟨q1, q2⟩
  · exact Or.inl ⟨⟨q1, by omega⟩, rfl, q4⟩
  · omega
theorem nR_0 {K : Nat → Int} {X : Nat → Nat} {h h' r : Int} {b f g : Nat} (e : h' = h) (q : (40 ≤ K b ∧ K b ≤ 40 + h' ∧ r = K b - 40 ∧ f = X b) ∨ (r = -1 ∧ ¬ (40 ≤ K b ∧ K b ≤ 40 + h'))) (hr : r < 0) (hg : b = g) : nR K X h b 0 g := by
  rcases q with ⟨q1, q2, q3, q4⟩ | ⟨q1, q2⟩
  · omega
  · exact Or.inr ⟨fun z => q2 ⟨z.1, by omega⟩, rfl, hg.symm⟩
theorem lw_s1 {K : Nat → Int} {X : Nat → Nat} {k b b1 : Nat} (hk : k < 20) (hl : lnR K X b 1 b1) (h : K b1 = 18) {c f : Int} (q : lwR K X (k + 1) (X b1) c f) : lwR K X k b c f := by
  obtain ⟨m, q⟩ := q
  exact ⟨m + 1, Or.inr ⟨hk, Or.inr ⟨b1, hl, Or.inl ⟨h, q⟩⟩⟩⟩
theorem lw_20 {K : Nat → Int} {X : Nat → Nat} {k b : Nat} (hk : 20 ≤ k) : lwR K X k b (-1) ((b : Nat) : Int) := ⟨1, Or.inl ⟨hk, rfl, rfl⟩⟩
theorem lw_n {K : Nat → Int} {X : Nat → Nat} {k b z : Nat} (hk : k < 20) (hl : lnR K X b 0 z) : lwR K X k b (-1) ((z : Nat) : Int) := ⟨1, Or.inr ⟨hk, Or.inl ⟨z, hl, rfl, rfl⟩⟩⟩
theorem lw_e {K : Nat → Int} {X : Nat → Nat} {k b b1 : Nat} {c : Int} (hk : k < 20) (hl : lnR K X b 1 b1) (h : K b1 = 21) (hc : c = ((k : Nat) : Int) + 1) : lwR K X k b c (-1) := ⟨1, Or.inr ⟨hk, Or.inr ⟨b1, hl, Or.inr (Or.inl ⟨h, hc, rfl⟩)⟩⟩⟩
theorem lw_w {K : Nat → Int} {X : Nat → Nat} {k b b1 : Nat} (hk : k < 20) (hl : lnR K X b 1 b1) (h : K b1 ≠ 18) (h2 : K b1 ≠ 21) : lwR K X k b (-1) ((b1 : Nat) : Int) := ⟨1, Or.inr ⟨hk, Or.inr ⟨b1, hl, Or.inr (Or.inr ⟨h, h2, rfl, rfl⟩)⟩⟩⟩
theorem nar_y {y z : Int32} (e : z = y.toInt8.toInt32) : narrow .byte (.int z) = .int z := by
  subst e
  show Value.int ((y.toInt8.toInt32).toInt8.toInt32) = Value.int (y.toInt8.toInt32)
  rw [Int8.toInt8_toInt32]
/-- bytes: as the reference keeps them, as the class does -/
def s8 (x : Int32) : Int32 := x.toInt8.toInt32
def sb (x s : Int32) : Int32 := (x >>> (s &&& 31)).toInt8.toInt32
def ub (x s : Int32) : Int32 := (x.toUInt32 >>> (s.toUInt32 &&& Int32.toUInt32 31)).toInt32 &&& 255
def f4S (V : Nat → Int32) (n : Nat) (x : Int32) : Nat → Int32 := cu (cu (cu (cu V n (sb x 24)) (n + 1) (sb x 16)) (n + 2) (sb x 8)) (n + 3) (sb x 0)
def f4U (V : Nat → Int32) (n : Nat) (x : Int32) : Nat → Int32 := cu (cu (cu (cu V n (ub x 24)) (n + 1) (ub x 16)) (n + 2) (ub x 8)) (n + 3) (ub x 0)
def fdS (V : Nat → Int32) (n : Nat) (a b c d e : Int32) : Nat → Int32 := f4S (f4S (f4S (f4S (f4S V n a) (n + 4) b) (n + 8) c) (n + 12) d) (n + 16) e
def fdU (V : Nat → Int32) (n : Nat) (a b c d e : Int32) : Nat → Int32 := f4U (f4U (f4U (f4U (f4U V n a) (n + 4) b) (n + 8) c) (n + 12) d) (n + 16) e
theorem s8_255 (x : Int32) : s8 (x &&& 255) = s8 x := by
  unfold s8
  congr 1
  apply Int8.toBitVec_inj.mp
  rw [Int32.toBitVec_toInt8, Int32.toBitVec_toInt8, Int32.toBitVec_and]
  apply BitVec.eq_of_getLsbD_eq
  intro i hi
  have h8 : ∀ i, i < 8 → (Int32.toBitVec 255).getLsbD i = true := by decide
  rw [BitVec.getLsbD_signExtend, BitVec.getLsbD_signExtend, if_pos (by omega), if_pos (by omega), BitVec.getLsbD_and, h8 i hi, Bool.and_true]
theorem s8_sh (x : Int32) (s : Int32) (h : s = 24 ∨ s = 16 ∨ s = 8 ∨ s = 0) : s8 ((x.toUInt32 >>> (s.toUInt32 &&& Int32.toUInt32 31)).toInt32) = sb x s := by
  unfold s8 sb
  congr 1
  apply Int8.toBitVec_inj.mp
  rw [Int32.toBitVec_toInt8, Int32.toBitVec_toInt8]
  apply BitVec.eq_of_getLsbD_eq
  intro i hi
  rw [BitVec.getLsbD_signExtend, BitVec.getLsbD_signExtend, if_pos (by omega), if_pos (by omega)]
  congr 1
  rw [Int32.toBitVec_shiftRight]
  show (x.toUInt32 >>> (s.toUInt32 &&& Int32.toUInt32 31)).toBitVec.getLsbD i = (x.toBitVec.sshiftRight ((s &&& 31).toBitVec.smod 32).toNat).getLsbD i
  rw [UInt32.toBitVec_shiftRight]
  show (x.toBitVec >>> (((s.toUInt32 &&& Int32.toUInt32 31).toBitVec % 32).toNat)).getLsbD i = _
  rw [BitVec.getLsbD_ushiftRight, BitVec.getLsbD_sshiftRight]
  have hi32 : i < 32 := by omega
  rcases h with rfl | rfl | rfl | rfl
  · rw [show (((24 : Int32).toUInt32 &&& Int32.toUInt32 31).toBitVec % 32).toNat = 24 from by decide, show (((24 : Int32) &&& 31).toBitVec.smod 32).toNat = 24 from by decide, if_pos (by omega)]; simp; omega
  · rw [show (((16 : Int32).toUInt32 &&& Int32.toUInt32 31).toBitVec % 32).toNat = 16 from by decide, show (((16 : Int32) &&& 31).toBitVec.smod 32).toNat = 16 from by decide, if_pos (by omega)]; simp; omega
  · rw [show (((8 : Int32).toUInt32 &&& Int32.toUInt32 31).toBitVec % 32).toNat = 8 from by decide, show (((8 : Int32) &&& 31).toBitVec.smod 32).toNat = 8 from by decide, if_pos (by omega)]; simp; omega
  · rw [show (((0 : Int32).toUInt32 &&& Int32.toUInt32 31).toBitVec % 32).toNat = 0 from by decide, show (((0 : Int32) &&& 31).toBitVec.smod 32).toNat = 0 from by decide, if_pos (by omega)]; simp; omega
theorem s8_ub {x s : Int32} (h : s = 24 ∨ s = 16 ∨ s = 8 ∨ s = 0) : s8 (ub x s) = sb x s := (s8_255 _).trans (s8_sh x s h)
theorem s8_cu {V : Nat → Int32} {n : Nat} {x y : Int32} (h : s8 x = y) : (fun k => s8 (cu V n x k)) = cu (fun k => s8 (V k)) n y := by
  funext k
  by_cases e : k = n
  · show s8 (cu V n x k) = _
    rw [cu_s e, cu_s e]; exact h
  · show s8 (cu V n x k) = _
    rw [cu_o e, cu_o e]
theorem s8_f4 (V : Nat → Int32) (n : Nat) (x : Int32) : (fun k => s8 (f4U V n x k)) = f4S (fun k => s8 (V k)) n x := by
  unfold f4U f4S
  rw [s8_cu (s8_ub (Or.inr (Or.inr (Or.inr rfl)))), s8_cu (s8_ub (Or.inr (Or.inr (Or.inl rfl)))), s8_cu (s8_ub (Or.inr (Or.inl rfl))), s8_cu (s8_ub (Or.inl rfl))]
theorem s8_fd (V : Nat → Int32) (n : Nat) (a b c d e : Int32) : (fun k => s8 (fdU V n a b c d e k)) = fdS (fun k => s8 (V k)) n a b c d e := by
  unfold fdU fdS
  rw [s8_f4, s8_f4, s8_f4, s8_f4, s8_f4]
theorem s8_s {x : Int32} (h0 : 0 ≤ x.toInt) (h1 : x.toInt ≤ 255) : (x.toInt < 128 ∧ (s8 x).toInt = x.toInt) ∨ (128 ≤ x.toInt ∧ (s8 x).toInt = x.toInt - 256) := by
  have e : (s8 x).toInt = x.toInt.bmod 256 := lg_i2b_toInt x
  rw [e]
  rcases Int.lt_or_le x.toInt 128 with q | q
  · exact Or.inl ⟨q, Int.bmod_eq_of_le (by omega) (by omega)⟩
  · refine Or.inr ⟨q, ?_⟩
    unfold Int.bmod
    have z : x.toInt % ((256 : Nat) : Int) = x.toInt := Int.emod_eq_of_lt h0 (by omega)
    simp only [z]
    rw [if_neg (by omega)]
    omega
/-- the class's text -/
def tc (V : Nat → Int32) : Nat → Int := tx (fun k => s8 (V k))
theorem tc_s {V : Nat → Int32} {n : Nat} {x : Int32} (e : x = V n) (h0 : 0 ≤ x.toInt) (h1 : x.toInt ≤ 255) : (x.toInt < 128 ∧ tc V n = x.toInt) ∨ (128 ≤ x.toInt ∧ tc V n = x.toInt - 256) := by
  have q := s8_s h0 h1
  have z : tc V n = (s8 x).toInt := by rw [e]; rfl
  rw [z]
  exact q
theorem te_x {t : Nat → Int} {n b r : Nat} {w d : Int} (hb : b < n) (hw : (w = 1 ∧ ltB (t b) = true) ∨ (w = 0 ∧ ltB (t b) = false)) (hd : (d = 1 ∧ dgB (t b) = true) ∨ (d = 0 ∧ dgB (t b) = false)) (h1 : b + 1 ≤ r) (h2 : r ≤ n) (hl : w = 1 → ∀ j, b ≤ j → j < r → ltB (t j) = true) (hg : d = 1 → ∀ j, b ≤ j → j < r → dgB (t j) = true) (hn : w = 0 → d = 0 → r = b + 1) (he : r < n → (w = 1 → ltB (t r) = false) ∧ (d = 1 → dgB (t r) = false)) : r = te t n b := by
  rcases hw with ⟨w1, w2⟩ | ⟨w1, w2⟩
  · rw [te_w w2]
    exact (ru_u (by omega) h2 (hl w1) (fun h => (he h).1 w1)).symm
  · rcases hd with ⟨d1, d2⟩ | ⟨d1, d2⟩
    · rw [te_d w2 d2]
      exact (ru_u (by omega) h2 (hg d1) (fun h => (he h).2 d1)).symm
    · rw [te_s w2 d2]
      exact hn w1 d1
theorem sgT_n (v : Int) : v = 43 ∨ v = 60 ∨ v = 62 ∨ v = 40 ∨ v = 41 ∨ v = 59 ∨ sgT v = 22 := by
  unfold sgT
  (repeat' split) <;> omega
theorem sgT_o {v : Int} (h : v < 0 ∨ 128 ≤ v) : sgT v = 22 := by
  have := sgT_n v
  omega
theorem sW_b {i j : Nat} (h : i < 48) : 0 ≤ (sW i).getD j 0 ∧ (sW i).getD j 0 ≤ 122 := by
  rcases Nat.lt_or_ge j 6 with q | q
  · exact (by decide +kernel : ∀ i, i < 48 → ∀ j, j < 6 → 0 ≤ (sW i).getD j 0 ∧ (sW i).getD j 0 ≤ 122) i h j q
  · have l1 := sW_l h
    have l2 := sLn_b h
    rw [List.getD_eq_getElem?_getD, List.getElem?_eq_none (by omega)]
    decide
theorem sC_p {i : Nat} (h : i < 48) : 0 ≤ sC i := by
  revert i
  decide
theorem WT_i : ∀ w ∈ WT, ∃ i, (24 ≤ i ∧ i < 48) ∧ w.1 = sW i := by
  intro w hw
  have z : ∀ w ∈ WT, ∃ i ∈ List.range 48, 24 ≤ i ∧ w.1 = sW i := by decide +kernel
  obtain ⟨i, h1, h2, h3⟩ := z w hw
  exact ⟨i, ⟨h2, List.mem_range.mp h1⟩, h3⟩
theorem wk_n {t : Nat → Int} {b e : Nat} (h : ∀ i, 24 ≤ i → i < 48 → ¬ wd (sW i) t b e) : wk t b e = 22 := wk_0 (fun w hw z => by
  obtain ⟨i, h1, h2⟩ := WT_i w hw
  rw [h2] at z
  exact h i h1.1 h1.2 z)
/-- where the things of a text begin, one behind another -/
def psn (t : Nat → Int) (n : Nat) : Nat → Nat
  | 0 => skp t n 0
  | k + 1 => xn t n (psn t n k)
theorem skp_n {t : Nat → Int} {n : Nat} : skp t n n = n := ru_u (Nat.le_refl n) (Nat.le_refl n) (fun j a b => by omega) (fun h => by omega)
theorem skp_i {t : Nat → Int} {n p : Nat} (h : p < n) (h1 : t p ≠ 32) : skp t n p = p := ru_u (Nat.le_refl p) (by omega) (fun j a b => by omega) (fun _ => spB_0 h1)
theorem skp_s {t : Nat → Int} {n p : Nat} (h : p < n) (h1 : t p = 32) : skp t n p = skp t n (p + 1) := by
  obtain ⟨a1, a2, a3, a4⟩ := ru_s (P := spB) (t := t) (show p + 1 ≤ n by omega)
  show ru spB t n p = ru spB t n (p + 1)
  exact ru_u (by omega) a2 (fun j b1 b2 => by
    by_cases e : j = p
    · rw [e]; exact spB_1 h1
    · exact a3 j (by omega) b2) a4
