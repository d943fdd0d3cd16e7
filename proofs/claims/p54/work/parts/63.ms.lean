def gL : List (Nat × Nat) → gT
  | [], _ => none
  | (b, t) :: l, a => if a = b then some t else gL l a
theorem gL_mem {a t : Nat} : ∀ {l : List (Nat × Nat)}, gL l a = some t → (a, t) ∈ l
  | [], h => by cases h
  | (b, u) :: l, h => by
    unfold gL at h
    by_cases e : a = b
    · rw [if_pos e] at h
      cases h
      rw [e]
      exact List.mem_cons_self
    · rw [if_neg e] at h
      exact List.mem_cons_of_mem _ (gL_mem h)
theorem gL_at {a t : Nat} : ∀ {l : List (Nat × Nat)}, (l.map Prod.fst).Nodup → (a, t) ∈ l → gL l a = some t
  | [], _, h => by cases h
  | (b, u) :: l, hn, h => by
    unfold gL
    rw [List.map_cons, List.nodup_cons] at hn
    by_cases e : a = b
    · rw [if_pos e]
      rcases List.mem_cons.mp h with h | h
      · cases h; rfl
      · exact absurd (by rw [← e]; exact List.mem_map.mpr ⟨_, h, rfl⟩) hn.1
    · rw [if_neg e]
      rcases List.mem_cons.mp h with h | h
      · cases h; exact absurd rfl e
      · exact gL_at hn.2 h
theorem va_D_nodup {A : Nat → Prop} {ws : va_W} (hD : va_D A ws) : (ws.map Prod.fst).Nodup := by
  rw [List.Nodup, List.pairwise_iff_getElem]
  intro i j hi hj hij h
  rw [List.getElem_map, List.getElem_map] at h
  rw [List.length_map] at hi hj
  have := hD.1 i j _ _ (List.getElem?_eq_getElem hi) (List.getElem?_eq_getElem hj) h
  omega
theorem all_c {α : Type} {P : α → Prop} {x : α} {l : List α} (h : P x) (hl : ∀ p ∈ l, P p) : ∀ p ∈ x :: l, P p := fun p hp => by
  rcases List.mem_cons.mp hp with e | e
  · rw [e]; exact h
  · exact hl p e
theorem all_n {α : Type} {P : α → Prop} : ∀ p ∈ ([] : List α), P p := fun _ h => by cases h
theorem gC_zi {D : va_G} {cl : List vw_C} {kA : Nat → ClassId} {G : gT} {H : Heap} {a j n : Nat} {cA : ClassId} {E : gE} (h : va_at D cl (a, .inl (cA, n, .inl (fun _ => 0))) H) (e : cA = kA j) (hE : ∀ i, i < n → E G i (.int 0)) : gC D kA (.inr (j, n, E)) G a H := by
  subst e
  exact ⟨fun _ => .int 0, h, hE⟩
theorem gC_zl {D : va_G} {cl : List vw_C} {kA : Nat → ClassId} {G : gT} {H : Heap} {a j n : Nat} {cA : ClassId} {E : gE} (h : va_at D cl (a, .inl (cA, n, .inr (.inl (fun _ => 0)))) H) (e : cA = kA j) (hE : ∀ i, i < n → E G i (.long 0)) : gC D kA (.inr (j, n, E)) G a H := by
  subst e
  exact ⟨fun _ => .long 0, h, hE⟩
theorem z0 : (0 : Int32).toInt = 0 := by decide
def wW0 : Nat → Int → Prop := wP (fun _ => 0) (fun _ => 6500000) 0 0 0 (fun _ => False) (fun _ => True) (fun _ => 0) (fun _ => 0)
theorem wW0_z (i : Nat) : wW0 i 0 := by
  refine ⟨?_, ?_, fun _ => ⟨fun h => h.elim, fun h => by cases h⟩, fun w hw => by omega⟩
  · unfold wLo
    repeat' split
    all_goals first | omega | (dsimp only; omega)
  · unfold wHi
    repeat' split
    all_goals first | omega | (dsimp only; omega)
abbrev msT (h0 : Nat) (v : Nat → Nat) : List (Nat × Nat) := ((h0, 0) :: (v 1, 2) :: (v 2, 3) :: (v 4, 5) :: (v 5, 6) :: (v 6, 7) :: (v 7, 8) :: (v 8, 9) :: (v 10, 11) :: (v 17, 18) :: (v 18, 19) :: (v 19, 20) :: (v 20, 21) :: (v 21, 22) :: (v 22, 23) :: (v 23, 24) :: (v 24, 25) :: (v 25, 26) :: (v 26, 27) :: (v 27, 28) :: (v 29, 30) :: (v 30, 31) :: (v 31, 32) :: (v 32, 33) :: (v 33, 34) :: (v 34, 35) :: (v 35, 36) :: (v 36, 37) :: (v 37, 38) :: (v 38, 39) :: (v 39, 40) :: (v 40, 41) :: (v 41, 42) :: (v 43, 44) :: (v 44, 45) :: (v 45, 46) :: (v 46, 47) :: (v 50, 51) :: (v 51, 52) :: (v 55, 56) :: (v 56, 57) :: (v 57, 58) :: (v 58, 59) :: (v 59, 60) :: (v 60, 61) :: (v 61, 62) :: (v 62, 63) :: (v 63, 64) :: (v 65, 66) :: (v 66, 67) :: (v 67, 68) :: (v 68, 69) :: (v 69, 70) :: (v 70, 71) :: (v 71, 72) :: (v 72, 73) :: (v 73, 74) :: (v 75, 76) :: (v 76, 77) :: [])
abbrev msW (h0 : Nat) (v : Nat → Nat) (kk : Nat → ClassId) : va_W := ((h0, .inr (15, (.int 0 :: .ref (v 1) :: .ref (v 2) :: .int 0 :: .ref (v 4) :: .ref (v 5) :: .ref (v 6) :: .ref (v 7) :: .ref (v 8) :: .int 0 :: .ref (v 10) :: .int 0 :: .int 0 :: .int 0 :: .int 0 :: .int 0 :: .int (-1) :: .ref (v 17) :: .ref (v 18) :: .ref (v 19) :: .ref (v 20) :: .ref (v 21) :: .ref (v 22) :: .ref (v 23) :: .ref (v 24) :: .ref (v 25) :: .ref (v 26) :: .ref (v 27) :: .int 0 :: .ref (v 29) :: .ref (v 30) :: .ref (v 31) :: .ref (v 32) :: .ref (v 33) :: .ref (v 34) :: .ref (v 35) :: .ref (v 36) :: .ref (v 37) :: .ref (v 38) :: .ref (v 39) :: .ref (v 40) :: .ref (v 41) :: .int 0 :: .ref (v 43) :: .ref (v 44) :: .ref (v 45) :: .ref (v 46) :: .int 0 :: .int 0 :: .int (-1) :: .ref (v 50) :: .ref (v 51) :: .int 0 :: .long 0 :: .long 0 :: .ref (v 55) :: .ref (v 56) :: .ref (v 57) :: .ref (v 58) :: .ref (v 59) :: .ref (v 60) :: .ref (v 61) :: .ref (v 62) :: .ref (v 63) :: .int 0 :: .ref (v 65) :: .ref (v 66) :: .ref (v 67) :: .ref (v 68) :: .ref (v 69) :: .ref (v 70) :: .ref (v 71) :: .ref (v 72) :: .ref (v 73) :: .int 0 :: .ref (v 75) :: .ref (v 76) :: .int 0 :: []))) :: (v 1, .inl ((kk 1), 1749, .inl (fun _ => 0))) :: (v 2, .inl ((kk 2), 1749, .inl (fun _ => 0))) :: (v 4, .inl ((kk 4), 96, .inl (fun _ => 0))) :: (v 5, .inl ((kk 5), 96, .inl (fun _ => 0))) :: (v 6, .inl ((kk 6), 96, .inl (fun _ => 0))) :: (v 7, .inl ((kk 7), 2304, .inl (fun _ => 0))) :: (v 8, .inl ((kk 8), 2304, .inl (fun _ => 0))) :: (v 10, .inl ((kk 10), 400, .inl (fun _ => 0))) :: (v 17, .inl ((kk 17), 5, .inl (fun _ => 0))) :: (v 18, .inl ((kk 18), 3, .inl (fun _ => 0))) :: (v 19, .inl ((kk 19), 60, .inl (fun _ => 0))) :: (v 20, .inl ((kk 20), 60, .inl (fun _ => 0))) :: (v 21, .inl ((kk 21), 60, .inl (fun _ => 0))) :: (v 22, .inl ((kk 22), 60, .inl (fun _ => 0))) :: (v 23, .inl ((kk 23), 60, .inl (fun _ => 0))) :: (v 24, .inl ((kk 24), 60, .inl (fun _ => 0))) :: (v 25, .inl ((kk 25), 60, .inl (fun _ => 0))) :: (v 26, .inl ((kk 26), 1200, .inl (fun _ => 0))) :: (v 27, .inl ((kk 27), 1200, .inl (fun _ => 0))) :: (v 29, .inl ((kk 29), 400, .inr (.inl (fun _ => 0)))) :: (v 30, .inl ((kk 30), 10, .inr (.inl (fun _ => 0)))) :: (v 31, .inl ((kk 31), 60, .inl (fun _ => 0))) :: (v 32, .inl ((kk 32), 60, .inl (fun _ => 0))) :: (v 33, .inl ((kk 33), 60, .inl (fun _ => 0))) :: (v 34, .inl ((kk 34), 60, .inl (fun _ => 0))) :: (v 35, .inl ((kk 35), 60, .inl (fun _ => 0))) :: (v 36, .inl ((kk 36), 60, .inl (fun _ => 0))) :: (v 37, .inl ((kk 37), 60, .inl (fun _ => 0))) :: (v 38, .inl ((kk 38), 60, .inl (fun _ => 0))) :: (v 39, .inl ((kk 39), 60, .inl (fun _ => 0))) :: (v 40, .inl ((kk 40), 60, .inl (fun _ => 0))) :: (v 41, .inl ((kk 41), 60, .inl (fun _ => 0))) :: (v 43, .inl ((kk 43), 30, .inl (fun _ => 0))) :: (v 44, .inl ((kk 44), 30, .inl (fun _ => 0))) :: (v 45, .inl ((kk 45), 30, .inl (fun _ => 0))) :: (v 46, .inl ((kk 46), 30, .inl (fun _ => 0))) :: (v 50, .inl ((kk 50), 60, .inr (.inl (fun _ => 0)))) :: (v 51, .inl ((kk 51), 60, .inl (fun _ => 0))) :: (v 55, .inl ((kk 55), 60, .inl (fun _ => 0))) :: (v 56, .inl ((kk 56), 40, .inl (fun _ => 0))) :: (v 57, .inl ((kk 57), 40, .inl (fun _ => 0))) :: (v 58, .inl ((kk 58), 40, .inl (fun _ => 0))) :: (v 59, .inl ((kk 59), 40, .inl (fun _ => 0))) :: (v 60, .inl ((kk 60), 40, .inl (fun _ => 0))) :: (v 61, .inl ((kk 61), 40, .inl (fun _ => 0))) :: (v 62, .inl ((kk 62), 40, .inl (fun _ => 0))) :: (v 63, .inl ((kk 63), 40, .inl (fun _ => 0))) :: (v 65, .inl ((kk 65), 1001, .inl (fun _ => 0))) :: (v 66, .inl ((kk 66), 1001, .inl (fun _ => 0))) :: (v 67, .inl ((kk 67), 5, .inl (fun _ => 0))) :: (v 68, .inl ((kk 68), 6, .inl (fun _ => 0))) :: (v 69, .inl ((kk 69), 6, .inl (fun _ => 0))) :: (v 70, .inl ((kk 70), 7, .inl (fun _ => 0))) :: (v 71, .inl ((kk 71), 7, .inl (fun _ => 0))) :: (v 72, .inl ((kk 72), 7, .inl (fun _ => 0))) :: (v 73, .inl ((kk 73), 7, .inl (fun _ => 0))) :: (v 75, .inl ((kk 75), 7, .inl (fun _ => 0))) :: (v 76, .inl ((kk 76), 7, .inl (fun _ => 0))) :: [])
abbrev msY (kk : Nat → ClassId) : List (ClassId × FieldType) := (((kk 1), .int) :: ((kk 2), .int) :: ((kk 4), .int) :: ((kk 5), .int) :: ((kk 6), .int) :: ((kk 7), .int) :: ((kk 8), .int) :: ((kk 10), .byte) :: ((kk 17), .int) :: ((kk 18), .int) :: ((kk 19), .int) :: ((kk 20), .int) :: ((kk 21), .int) :: ((kk 22), .int) :: ((kk 23), .int) :: ((kk 24), .int) :: ((kk 25), .int) :: ((kk 26), .int) :: ((kk 27), .int) :: ((kk 29), .long) :: ((kk 30), .long) :: ((kk 31), .int) :: ((kk 32), .int) :: ((kk 33), .int) :: ((kk 34), .int) :: ((kk 35), .boolean) :: ((kk 36), .boolean) :: ((kk 37), .int) :: ((kk 38), .int) :: ((kk 39), .int) :: ((kk 40), .int) :: ((kk 41), .boolean) :: ((kk 43), .int) :: ((kk 44), .int) :: ((kk 45), .int) :: ((kk 46), .int) :: ((kk 50), .long) :: ((kk 51), .boolean) :: ((kk 55), .boolean) :: ((kk 56), .int) :: ((kk 57), .int) :: ((kk 58), .int) :: ((kk 59), .int) :: ((kk 60), .int) :: ((kk 61), .int) :: ((kk 62), .boolean) :: ((kk 63), .boolean) :: ((kk 65), .int) :: ((kk 66), .int) :: ((kk 67), .int) :: ((kk 68), .int) :: ((kk 69), .int) :: ((kk 70), .int) :: ((kk 71), .int) :: ((kk 72), .int) :: ((kk 73), .int) :: ((kk 75), .int) :: ((kk 76), .int) :: [])
set_option maxHeartbeats 4000000 in
set_option maxRecDepth 100000 in
theorem m_start {dC : Nat → ClassId} {dI : Nat → Nat → Nat} {kA : Nat → ClassId} {h0 : Nat} {v : Nat → Nat} {kk : Nat → ClassId} {H : Heap} {ts : State} {A : Nat → Prop} {lS lB lE : Nat → Nat → Int → Prop} {lN : Nat → Int} (hP : va_P (dC, dI) vwCl (msW h0 v kk) H) (hKs : va_K (dC, dI) vwCl (msY kk) ts) (hK : va_K (dC, dI) vwCl (tyl kA) ts) (hD : va_D A (msW h0 v kk)) (hPS : ∀ j, lqS lS j 0) (hPB : ∀ j, lqB lB j 0) (hPE : ∀ j, lqB lE j 0) (hPL : ∀ j, lqL lN j 0) :
    ∃ G : gT, gH (dC, dI) kA (SHm v wW0 wW0 0 (fun _ _ => True) (fun _ _ => True) lS lB lE lN) G H ∧ G h0 = some 0 ∧ (∀ a t, G a = some (t + 1) → a = v t) ∧ (∀ a, G a = some 0 → a = h0) ∧ ∀ a t, G a = some t → A a := by
  have hnd : ((msT h0 v).map Prod.fst).Nodup := va_D_nodup hD
  have hg : ∀ a t, (a, t) ∈ msT h0 v → gL (msT h0 v) a = some t := fun a t h => gL_at hnd h
  generalize hGe : gL (msT h0 v) = G at hg
  refine ⟨G, fun a t ha => ?_, hg _ _ List.mem_cons_self, fun a t ha => ?_, fun a ha => ?_, fun a t ha => ?_⟩
  · have hm := gL_mem (l := msT h0 v) (by rw [hGe]; exact ha)
    have hob : gC (dC, dI) kA (SHm v wW0 wW0 0 (fun _ _ => True) (fun _ _ => True) lS lB lE lN 0) G h0 H := by
      rw [shm_0]
      obtain ⟨r, hr, h9⟩ := hP 0 _ rfl
      cases hr
      refine ⟨_, h9, fun k hk => ?_⟩
      exact match k, hk with
      | 0, _ => gl_at rfl ⟨_, rfl, by decide, by decide⟩
      | 1, _ => gl_at rfl ⟨rfl, hg _ _ (List.mem_of_getElem? (i := 1) rfl)⟩
      | 2, _ => gl_at rfl ⟨rfl, hg _ _ (List.mem_of_getElem? (i := 2) rfl)⟩
      | 3, _ => gl_at rfl ⟨_, rfl, by decide, by decide⟩
      | 4, _ => gl_at rfl ⟨rfl, hg _ _ (List.mem_of_getElem? (i := 3) rfl)⟩
      | 5, _ => gl_at rfl ⟨rfl, hg _ _ (List.mem_of_getElem? (i := 4) rfl)⟩
      | 6, _ => gl_at rfl ⟨rfl, hg _ _ (List.mem_of_getElem? (i := 5) rfl)⟩
      | 7, _ => gl_at rfl ⟨rfl, hg _ _ (List.mem_of_getElem? (i := 6) rfl)⟩
      | 8, _ => gl_at rfl ⟨rfl, hg _ _ (List.mem_of_getElem? (i := 7) rfl)⟩
      | 9, _ => gl_at rfl ⟨_, rfl, by decide, by decide⟩
      | 10, _ => gl_at rfl ⟨rfl, hg _ _ (List.mem_of_getElem? (i := 8) rfl)⟩
      | 11, _ => gl_at rfl ⟨_, rfl, by decide, by decide⟩
      | 12, _ => gl_at rfl ⟨_, rfl, by decide, by decide⟩
      | 13, _ => gl_at rfl ⟨_, rfl, by decide, by decide⟩
      | 14, _ => gl_at rfl ⟨_, rfl, by decide, by decide⟩
      | 15, _ => gl_at rfl ⟨_, rfl, by decide, by decide⟩
      | 16, _ => gl_at rfl ⟨_, rfl, by decide, by decide⟩
      | 17, _ => gl_at rfl ⟨rfl, hg _ _ (List.mem_of_getElem? (i := 9) rfl)⟩
      | 18, _ => gl_at rfl ⟨rfl, hg _ _ (List.mem_of_getElem? (i := 10) rfl)⟩
      | 19, _ => gl_at rfl ⟨rfl, hg _ _ (List.mem_of_getElem? (i := 11) rfl)⟩
      | 20, _ => gl_at rfl ⟨rfl, hg _ _ (List.mem_of_getElem? (i := 12) rfl)⟩
      | 21, _ => gl_at rfl ⟨rfl, hg _ _ (List.mem_of_getElem? (i := 13) rfl)⟩
      | 22, _ => gl_at rfl ⟨rfl, hg _ _ (List.mem_of_getElem? (i := 14) rfl)⟩
      | 23, _ => gl_at rfl ⟨rfl, hg _ _ (List.mem_of_getElem? (i := 15) rfl)⟩
      | 24, _ => gl_at rfl ⟨rfl, hg _ _ (List.mem_of_getElem? (i := 16) rfl)⟩
      | 25, _ => gl_at rfl ⟨rfl, hg _ _ (List.mem_of_getElem? (i := 17) rfl)⟩
      | 26, _ => gl_at rfl ⟨rfl, hg _ _ (List.mem_of_getElem? (i := 18) rfl)⟩
      | 27, _ => gl_at rfl ⟨rfl, hg _ _ (List.mem_of_getElem? (i := 19) rfl)⟩
      | 28, _ => gl_at rfl ⟨_, rfl, by decide, by decide⟩
      | 29, _ => gl_at rfl ⟨rfl, hg _ _ (List.mem_of_getElem? (i := 20) rfl)⟩
      | 30, _ => gl_at rfl ⟨rfl, hg _ _ (List.mem_of_getElem? (i := 21) rfl)⟩
      | 31, _ => gl_at rfl ⟨rfl, hg _ _ (List.mem_of_getElem? (i := 22) rfl)⟩
      | 32, _ => gl_at rfl ⟨rfl, hg _ _ (List.mem_of_getElem? (i := 23) rfl)⟩
      | 33, _ => gl_at rfl ⟨rfl, hg _ _ (List.mem_of_getElem? (i := 24) rfl)⟩
      | 34, _ => gl_at rfl ⟨rfl, hg _ _ (List.mem_of_getElem? (i := 25) rfl)⟩
      | 35, _ => gl_at rfl ⟨rfl, hg _ _ (List.mem_of_getElem? (i := 26) rfl)⟩
      | 36, _ => gl_at rfl ⟨rfl, hg _ _ (List.mem_of_getElem? (i := 27) rfl)⟩
      | 37, _ => gl_at rfl ⟨rfl, hg _ _ (List.mem_of_getElem? (i := 28) rfl)⟩
      | 38, _ => gl_at rfl ⟨rfl, hg _ _ (List.mem_of_getElem? (i := 29) rfl)⟩
      | 39, _ => gl_at rfl ⟨rfl, hg _ _ (List.mem_of_getElem? (i := 30) rfl)⟩
      | 40, _ => gl_at rfl ⟨rfl, hg _ _ (List.mem_of_getElem? (i := 31) rfl)⟩
      | 41, _ => gl_at rfl ⟨rfl, hg _ _ (List.mem_of_getElem? (i := 32) rfl)⟩
      | 42, _ => gl_at rfl ⟨_, rfl, by decide, by decide⟩
      | 43, _ => gl_at rfl ⟨rfl, hg _ _ (List.mem_of_getElem? (i := 33) rfl)⟩
      | 44, _ => gl_at rfl ⟨rfl, hg _ _ (List.mem_of_getElem? (i := 34) rfl)⟩
      | 45, _ => gl_at rfl ⟨rfl, hg _ _ (List.mem_of_getElem? (i := 35) rfl)⟩
      | 46, _ => gl_at rfl ⟨rfl, hg _ _ (List.mem_of_getElem? (i := 36) rfl)⟩
      | 47, _ => gl_at rfl ⟨_, rfl, by decide, by decide⟩
      | 48, _ => gl_at rfl ⟨_, rfl, by decide, by decide⟩
      | 49, _ => gl_at rfl ⟨_, rfl, by decide, by decide⟩
      | 50, _ => gl_at rfl ⟨rfl, hg _ _ (List.mem_of_getElem? (i := 37) rfl)⟩
      | 51, _ => gl_at rfl ⟨rfl, hg _ _ (List.mem_of_getElem? (i := 38) rfl)⟩
      | 52, _ => gl_at rfl ⟨_, rfl, by decide, by decide⟩
      | 53, _ => gl_at rfl ⟨_, rfl⟩
      | 54, _ => gl_at rfl ⟨_, rfl⟩
      | 55, _ => gl_at rfl ⟨rfl, hg _ _ (List.mem_of_getElem? (i := 39) rfl)⟩
      | 56, _ => gl_at rfl ⟨rfl, hg _ _ (List.mem_of_getElem? (i := 40) rfl)⟩
      | 57, _ => gl_at rfl ⟨rfl, hg _ _ (List.mem_of_getElem? (i := 41) rfl)⟩
      | 58, _ => gl_at rfl ⟨rfl, hg _ _ (List.mem_of_getElem? (i := 42) rfl)⟩
      | 59, _ => gl_at rfl ⟨rfl, hg _ _ (List.mem_of_getElem? (i := 43) rfl)⟩
      | 60, _ => gl_at rfl ⟨rfl, hg _ _ (List.mem_of_getElem? (i := 44) rfl)⟩
      | 61, _ => gl_at rfl ⟨rfl, hg _ _ (List.mem_of_getElem? (i := 45) rfl)⟩
      | 62, _ => gl_at rfl ⟨rfl, hg _ _ (List.mem_of_getElem? (i := 46) rfl)⟩
      | 63, _ => gl_at rfl ⟨rfl, hg _ _ (List.mem_of_getElem? (i := 47) rfl)⟩
      | 64, _ => gl_at rfl ⟨_, rfl, by decide, by decide⟩
      | 65, _ => gl_at rfl ⟨rfl, hg _ _ (List.mem_of_getElem? (i := 48) rfl)⟩
      | 66, _ => gl_at rfl ⟨rfl, hg _ _ (List.mem_of_getElem? (i := 49) rfl)⟩
      | 67, _ => gl_at rfl ⟨rfl, hg _ _ (List.mem_of_getElem? (i := 50) rfl)⟩
      | 68, _ => gl_at rfl ⟨rfl, hg _ _ (List.mem_of_getElem? (i := 51) rfl)⟩
      | 69, _ => gl_at rfl ⟨rfl, hg _ _ (List.mem_of_getElem? (i := 52) rfl)⟩
      | 70, _ => gl_at rfl ⟨rfl, hg _ _ (List.mem_of_getElem? (i := 53) rfl)⟩
      | 71, _ => gl_at rfl ⟨rfl, hg _ _ (List.mem_of_getElem? (i := 54) rfl)⟩
      | 72, _ => gl_at rfl ⟨rfl, hg _ _ (List.mem_of_getElem? (i := 55) rfl)⟩
      | 73, _ => gl_at rfl ⟨rfl, hg _ _ (List.mem_of_getElem? (i := 56) rfl)⟩
      | 74, _ => gl_at rfl ⟨_, rfl, by decide, by decide⟩
      | 75, _ => gl_at rfl ⟨rfl, hg _ _ (List.mem_of_getElem? (i := 57) rfl)⟩
      | 76, _ => gl_at rfl ⟨rfl, hg _ _ (List.mem_of_getElem? (i := 58) rfl)⟩
      | 77, _ => gl_at rfl ⟨_, rfl, by decide, by decide⟩
      | k + 78, hk => absurd hk (by show ¬ k + 78 < 78; omega)
    refine (show ∀ p ∈ msT h0 v, gC (dC, dI) kA (SHm v wW0 wW0 0 (fun _ _ => True) (fun _ _ => True) lS lB lE lN p.2) G p.1 H from all_c hob ?_) (a, t) hm
    refine all_c (by show gC _ _ (SHm _ _ _ _ _ _ _ _ _ _ 2) _ _ _; rw [shm_2]; exact gC_zi (cl := vwCl) (hP 1 _ rfl) (Option.some.inj ((show ts.vm.findClass _ = some _ from (hKs.2 0 _ rfl).2).symm.trans (hK.2 0 _ rfl).2)) (fun i _ => ⟨0, rfl, by rw [z0]; exact wW0_z i⟩)) ?_
    refine all_c (by show gC _ _ (SHm _ _ _ _ _ _ _ _ _ _ 3) _ _ _; rw [shm_3]; exact gC_zi (cl := vwCl) (hP 2 _ rfl) (Option.some.inj ((show ts.vm.findClass _ = some _ from (hKs.2 1 _ rfl).2).symm.trans (hK.2 0 _ rfl).2)) (fun i _ => ⟨0, rfl, by rw [z0]; exact wW0_z i⟩)) ?_
    refine all_c (by show gC _ _ (SHm _ _ _ _ _ _ _ _ _ _ 5) _ _ _; rw [shm_5]; exact gC_zi (cl := vwCl) (hP 3 _ rfl) (Option.some.inj ((show ts.vm.findClass _ = some _ from (hKs.2 2 _ rfl).2).symm.trans (hK.2 0 _ rfl).2)) (fun i _ => ⟨0, rfl, by rw [z0]; exact ⟨⟨by decide, by decide⟩, trivial⟩⟩)) ?_
    refine all_c (by show gC _ _ (SHm _ _ _ _ _ _ _ _ _ _ 6) _ _ _; rw [shm_6]; exact gC_zi (cl := vwCl) (hP 4 _ rfl) (Option.some.inj ((show ts.vm.findClass _ = some _ from (hKs.2 3 _ rfl).2).symm.trans (hK.2 0 _ rfl).2)) (fun i _ => ⟨0, rfl, by rw [z0]; exact ⟨⟨by decide, by decide⟩, trivial⟩⟩)) ?_
    refine all_c (by show gC _ _ (SHm _ _ _ _ _ _ _ _ _ _ 7) _ _ _; rw [shm_7]; exact gC_zi (cl := vwCl) (hP 5 _ rfl) (Option.some.inj ((show ts.vm.findClass _ = some _ from (hKs.2 4 _ rfl).2).symm.trans (hK.2 0 _ rfl).2)) (fun _ _ => ⟨0, rfl, by decide, by decide⟩)) ?_
    refine all_c (by show gC _ _ (SHm _ _ _ _ _ _ _ _ _ _ 8) _ _ _; rw [shm_8]; exact gC_zi (cl := vwCl) (hP 6 _ rfl) (Option.some.inj ((show ts.vm.findClass _ = some _ from (hKs.2 5 _ rfl).2).symm.trans (hK.2 0 _ rfl).2)) (fun _ _ => ⟨0, rfl, by decide, by decide⟩)) ?_
    refine all_c (by show gC _ _ (SHm _ _ _ _ _ _ _ _ _ _ 9) _ _ _; rw [shm_9]; exact gC_zi (cl := vwCl) (hP 7 _ rfl) (Option.some.inj ((show ts.vm.findClass _ = some _ from (hKs.2 6 _ rfl).2).symm.trans (hK.2 0 _ rfl).2)) (fun _ _ => ⟨0, rfl, by decide, by decide⟩)) ?_
    refine all_c (by show gC _ _ (SHm _ _ _ _ _ _ _ _ _ _ 11) _ _ _; rw [shm_11]; exact gC_zi (cl := vwCl) (hP 8 _ rfl) (Option.some.inj ((show ts.vm.findClass _ = some _ from (hKs.2 7 _ rfl).2).symm.trans (hK.2 3 _ rfl).2)) (fun _ _ => ⟨0, rfl, by decide, by decide⟩)) ?_
    refine all_c (by show gC _ _ (SHm _ _ _ _ _ _ _ _ _ _ 18) _ _ _; rw [shm_18]; exact gC_zi (cl := vwCl) (hP 9 _ rfl) (Option.some.inj ((show ts.vm.findClass _ = some _ from (hKs.2 8 _ rfl).2).symm.trans (hK.2 0 _ rfl).2)) (fun _ _ => ⟨0, rfl, by decide, by decide⟩)) ?_
    refine all_c (by show gC _ _ (SHm _ _ _ _ _ _ _ _ _ _ 19) _ _ _; rw [shm_19]; exact gC_zi (cl := vwCl) (hP 10 _ rfl) (Option.some.inj ((show ts.vm.findClass _ = some _ from (hKs.2 9 _ rfl).2).symm.trans (hK.2 0 _ rfl).2)) (fun i _ => ⟨0, rfl, by rw [z0]; exact hPL i⟩)) ?_
    refine all_c (by show gC _ _ (SHm _ _ _ _ _ _ _ _ _ _ 20) _ _ _; rw [shm_20]; exact gC_zi (cl := vwCl) (hP 11 _ rfl) (Option.some.inj ((show ts.vm.findClass _ = some _ from (hKs.2 10 _ rfl).2).symm.trans (hK.2 0 _ rfl).2)) (fun _ _ => ⟨0, rfl, by decide, by decide⟩)) ?_
    refine all_c (by show gC _ _ (SHm _ _ _ _ _ _ _ _ _ _ 21) _ _ _; rw [shm_21]; exact gC_zi (cl := vwCl) (hP 12 _ rfl) (Option.some.inj ((show ts.vm.findClass _ = some _ from (hKs.2 11 _ rfl).2).symm.trans (hK.2 0 _ rfl).2)) (fun _ _ => ⟨0, rfl, by decide, by decide⟩)) ?_
    refine all_c (by show gC _ _ (SHm _ _ _ _ _ _ _ _ _ _ 22) _ _ _; rw [shm_22]; exact gC_zi (cl := vwCl) (hP 13 _ rfl) (Option.some.inj ((show ts.vm.findClass _ = some _ from (hKs.2 12 _ rfl).2).symm.trans (hK.2 0 _ rfl).2)) (fun _ _ => ⟨0, rfl, by decide, by decide⟩)) ?_
    refine all_c (by show gC _ _ (SHm _ _ _ _ _ _ _ _ _ _ 23) _ _ _; rw [shm_23]; exact gC_zi (cl := vwCl) (hP 14 _ rfl) (Option.some.inj ((show ts.vm.findClass _ = some _ from (hKs.2 13 _ rfl).2).symm.trans (hK.2 0 _ rfl).2)) (fun _ _ => ⟨0, rfl, by decide, by decide⟩)) ?_
    refine all_c (by show gC _ _ (SHm _ _ _ _ _ _ _ _ _ _ 24) _ _ _; rw [shm_24]; exact gC_zi (cl := vwCl) (hP 15 _ rfl) (Option.some.inj ((show ts.vm.findClass _ = some _ from (hKs.2 14 _ rfl).2).symm.trans (hK.2 0 _ rfl).2)) (fun _ _ => ⟨0, rfl, by decide, by decide⟩)) ?_
    refine all_c (by show gC _ _ (SHm _ _ _ _ _ _ _ _ _ _ 25) _ _ _; rw [shm_25]; exact gC_zi (cl := vwCl) (hP 16 _ rfl) (Option.some.inj ((show ts.vm.findClass _ = some _ from (hKs.2 15 _ rfl).2).symm.trans (hK.2 0 _ rfl).2)) (fun i _ => ⟨0, rfl, by rw [z0]; exact hPB i⟩)) ?_
    refine all_c (by show gC _ _ (SHm _ _ _ _ _ _ _ _ _ _ 26) _ _ _; rw [shm_26]; exact gC_zi (cl := vwCl) (hP 17 _ rfl) (Option.some.inj ((show ts.vm.findClass _ = some _ from (hKs.2 16 _ rfl).2).symm.trans (hK.2 0 _ rfl).2)) (fun i _ => ⟨0, rfl, by rw [z0]; exact hPE i⟩)) ?_
    refine all_c (by show gC _ _ (SHm _ _ _ _ _ _ _ _ _ _ 27) _ _ _; rw [shm_27]; exact gC_zi (cl := vwCl) (hP 18 _ rfl) (Option.some.inj ((show ts.vm.findClass _ = some _ from (hKs.2 17 _ rfl).2).symm.trans (hK.2 0 _ rfl).2)) (fun i _ => ⟨0, rfl, by rw [z0]; exact hPS i⟩)) ?_
    refine all_c (by show gC _ _ (SHm _ _ _ _ _ _ _ _ _ _ 28) _ _ _; rw [shm_28]; exact gC_zi (cl := vwCl) (hP 19 _ rfl) (Option.some.inj ((show ts.vm.findClass _ = some _ from (hKs.2 18 _ rfl).2).symm.trans (hK.2 0 _ rfl).2)) (fun _ _ => ⟨0, rfl, by decide, by decide⟩)) ?_
    refine all_c (by show gC _ _ (SHm _ _ _ _ _ _ _ _ _ _ 30) _ _ _; rw [shm_30]; exact gC_zl (cl := vwCl) (hP 20 _ rfl) (Option.some.inj ((show ts.vm.findClass _ = some _ from (hKs.2 19 _ rfl).2).symm.trans (hK.2 2 _ rfl).2)) (fun _ _ => ⟨0, rfl⟩)) ?_
    refine all_c (by show gC _ _ (SHm _ _ _ _ _ _ _ _ _ _ 31) _ _ _; rw [shm_31]; exact gC_zl (cl := vwCl) (hP 21 _ rfl) (Option.some.inj ((show ts.vm.findClass _ = some _ from (hKs.2 20 _ rfl).2).symm.trans (hK.2 2 _ rfl).2)) (fun _ _ => ⟨0, rfl⟩)) ?_
    refine all_c (by show gC _ _ (SHm _ _ _ _ _ _ _ _ _ _ 32) _ _ _; rw [shm_32]; exact gC_zi (cl := vwCl) (hP 22 _ rfl) (Option.some.inj ((show ts.vm.findClass _ = some _ from (hKs.2 21 _ rfl).2).symm.trans (hK.2 0 _ rfl).2)) (fun _ _ => ⟨0, rfl, by decide, by decide⟩)) ?_
    refine all_c (by show gC _ _ (SHm _ _ _ _ _ _ _ _ _ _ 33) _ _ _; rw [shm_33]; exact gC_zi (cl := vwCl) (hP 23 _ rfl) (Option.some.inj ((show ts.vm.findClass _ = some _ from (hKs.2 22 _ rfl).2).symm.trans (hK.2 0 _ rfl).2)) (fun _ _ => ⟨0, rfl, by decide, by decide⟩)) ?_
    refine all_c (by show gC _ _ (SHm _ _ _ _ _ _ _ _ _ _ 34) _ _ _; rw [shm_34]; exact gC_zi (cl := vwCl) (hP 24 _ rfl) (Option.some.inj ((show ts.vm.findClass _ = some _ from (hKs.2 23 _ rfl).2).symm.trans (hK.2 0 _ rfl).2)) (fun _ _ => ⟨0, rfl, by decide, by decide⟩)) ?_
    refine all_c (by show gC _ _ (SHm _ _ _ _ _ _ _ _ _ _ 35) _ _ _; rw [shm_35]; exact gC_zi (cl := vwCl) (hP 25 _ rfl) (Option.some.inj ((show ts.vm.findClass _ = some _ from (hKs.2 24 _ rfl).2).symm.trans (hK.2 0 _ rfl).2)) (fun _ _ => ⟨0, rfl, by decide, by decide⟩)) ?_
    refine all_c (by show gC _ _ (SHm _ _ _ _ _ _ _ _ _ _ 36) _ _ _; rw [shm_36]; exact gC_zi (cl := vwCl) (hP 26 _ rfl) (Option.some.inj ((show ts.vm.findClass _ = some _ from (hKs.2 25 _ rfl).2).symm.trans (hK.2 1 _ rfl).2)) (fun _ _ => ⟨0, rfl, by decide, by decide⟩)) ?_
    refine all_c (by show gC _ _ (SHm _ _ _ _ _ _ _ _ _ _ 37) _ _ _; rw [shm_37]; exact gC_zi (cl := vwCl) (hP 27 _ rfl) (Option.some.inj ((show ts.vm.findClass _ = some _ from (hKs.2 26 _ rfl).2).symm.trans (hK.2 1 _ rfl).2)) (fun _ _ => ⟨0, rfl, by decide, by decide⟩)) ?_
    refine all_c (by show gC _ _ (SHm _ _ _ _ _ _ _ _ _ _ 38) _ _ _; rw [shm_38]; exact gC_zi (cl := vwCl) (hP 28 _ rfl) (Option.some.inj ((show ts.vm.findClass _ = some _ from (hKs.2 27 _ rfl).2).symm.trans (hK.2 0 _ rfl).2)) (fun _ _ => ⟨0, rfl, by decide, by decide⟩)) ?_
    refine all_c (by show gC _ _ (SHm _ _ _ _ _ _ _ _ _ _ 39) _ _ _; rw [shm_39]; exact gC_zi (cl := vwCl) (hP 29 _ rfl) (Option.some.inj ((show ts.vm.findClass _ = some _ from (hKs.2 28 _ rfl).2).symm.trans (hK.2 0 _ rfl).2)) (fun _ _ => ⟨0, rfl, by decide, by decide⟩)) ?_
    refine all_c (by show gC _ _ (SHm _ _ _ _ _ _ _ _ _ _ 40) _ _ _; rw [shm_40]; exact gC_zi (cl := vwCl) (hP 30 _ rfl) (Option.some.inj ((show ts.vm.findClass _ = some _ from (hKs.2 29 _ rfl).2).symm.trans (hK.2 0 _ rfl).2)) (fun _ _ => ⟨0, rfl, by decide, by decide⟩)) ?_
    refine all_c (by show gC _ _ (SHm _ _ _ _ _ _ _ _ _ _ 41) _ _ _; rw [shm_41]; exact gC_zi (cl := vwCl) (hP 31 _ rfl) (Option.some.inj ((show ts.vm.findClass _ = some _ from (hKs.2 30 _ rfl).2).symm.trans (hK.2 0 _ rfl).2)) (fun _ _ => ⟨0, rfl, by decide, by decide⟩)) ?_
    refine all_c (by show gC _ _ (SHm _ _ _ _ _ _ _ _ _ _ 42) _ _ _; rw [shm_42]; exact gC_zi (cl := vwCl) (hP 32 _ rfl) (Option.some.inj ((show ts.vm.findClass _ = some _ from (hKs.2 31 _ rfl).2).symm.trans (hK.2 1 _ rfl).2)) (fun _ _ => ⟨0, rfl, by decide, by decide⟩)) ?_
    refine all_c (by show gC _ _ (SHm _ _ _ _ _ _ _ _ _ _ 44) _ _ _; rw [shm_44]; exact gC_zi (cl := vwCl) (hP 33 _ rfl) (Option.some.inj ((show ts.vm.findClass _ = some _ from (hKs.2 32 _ rfl).2).symm.trans (hK.2 0 _ rfl).2)) (fun _ _ => ⟨0, rfl, by decide, by decide⟩)) ?_
    refine all_c (by show gC _ _ (SHm _ _ _ _ _ _ _ _ _ _ 45) _ _ _; rw [shm_45]; exact gC_zi (cl := vwCl) (hP 34 _ rfl) (Option.some.inj ((show ts.vm.findClass _ = some _ from (hKs.2 33 _ rfl).2).symm.trans (hK.2 0 _ rfl).2)) (fun _ _ => ⟨0, rfl, by decide, by decide⟩)) ?_
    refine all_c (by show gC _ _ (SHm _ _ _ _ _ _ _ _ _ _ 46) _ _ _; rw [shm_46]; exact gC_zi (cl := vwCl) (hP 35 _ rfl) (Option.some.inj ((show ts.vm.findClass _ = some _ from (hKs.2 34 _ rfl).2).symm.trans (hK.2 0 _ rfl).2)) (fun _ _ => ⟨0, rfl, by decide, by decide⟩)) ?_
    refine all_c (by show gC _ _ (SHm _ _ _ _ _ _ _ _ _ _ 47) _ _ _; rw [shm_47]; exact gC_zi (cl := vwCl) (hP 36 _ rfl) (Option.some.inj ((show ts.vm.findClass _ = some _ from (hKs.2 35 _ rfl).2).symm.trans (hK.2 0 _ rfl).2)) (fun _ _ => ⟨0, rfl, by decide, by decide⟩)) ?_
    refine all_c (by show gC _ _ (SHm _ _ _ _ _ _ _ _ _ _ 51) _ _ _; rw [shm_51]; exact gC_zl (cl := vwCl) (hP 37 _ rfl) (Option.some.inj ((show ts.vm.findClass _ = some _ from (hKs.2 36 _ rfl).2).symm.trans (hK.2 2 _ rfl).2)) (fun _ _ => ⟨0, rfl⟩)) ?_
    refine all_c (by show gC _ _ (SHm _ _ _ _ _ _ _ _ _ _ 52) _ _ _; rw [shm_52]; exact gC_zi (cl := vwCl) (hP 38 _ rfl) (Option.some.inj ((show ts.vm.findClass _ = some _ from (hKs.2 37 _ rfl).2).symm.trans (hK.2 1 _ rfl).2)) (fun _ _ => ⟨0, rfl, by decide, by decide⟩)) ?_
    refine all_c (by show gC _ _ (SHm _ _ _ _ _ _ _ _ _ _ 56) _ _ _; rw [shm_56]; exact gC_zi (cl := vwCl) (hP 39 _ rfl) (Option.some.inj ((show ts.vm.findClass _ = some _ from (hKs.2 38 _ rfl).2).symm.trans (hK.2 1 _ rfl).2)) (fun _ _ => ⟨0, rfl, by decide, by decide⟩)) ?_
    refine all_c (by show gC _ _ (SHm _ _ _ _ _ _ _ _ _ _ 57) _ _ _; rw [shm_57]; exact gC_zi (cl := vwCl) (hP 40 _ rfl) (Option.some.inj ((show ts.vm.findClass _ = some _ from (hKs.2 39 _ rfl).2).symm.trans (hK.2 0 _ rfl).2)) (fun _ _ => ⟨0, rfl, by decide, by decide⟩)) ?_
    refine all_c (by show gC _ _ (SHm _ _ _ _ _ _ _ _ _ _ 58) _ _ _; rw [shm_58]; exact gC_zi (cl := vwCl) (hP 41 _ rfl) (Option.some.inj ((show ts.vm.findClass _ = some _ from (hKs.2 40 _ rfl).2).symm.trans (hK.2 0 _ rfl).2)) (fun _ _ => ⟨0, rfl, by decide, by decide⟩)) ?_
    refine all_c (by show gC _ _ (SHm _ _ _ _ _ _ _ _ _ _ 59) _ _ _; rw [shm_59]; exact gC_zi (cl := vwCl) (hP 42 _ rfl) (Option.some.inj ((show ts.vm.findClass _ = some _ from (hKs.2 41 _ rfl).2).symm.trans (hK.2 0 _ rfl).2)) (fun _ _ => ⟨0, rfl, by decide, by decide⟩)) ?_
    refine all_c (by show gC _ _ (SHm _ _ _ _ _ _ _ _ _ _ 60) _ _ _; rw [shm_60]; exact gC_zi (cl := vwCl) (hP 43 _ rfl) (Option.some.inj ((show ts.vm.findClass _ = some _ from (hKs.2 42 _ rfl).2).symm.trans (hK.2 0 _ rfl).2)) (fun _ _ => ⟨0, rfl, by decide, by decide⟩)) ?_
    refine all_c (by show gC _ _ (SHm _ _ _ _ _ _ _ _ _ _ 61) _ _ _; rw [shm_61]; exact gC_zi (cl := vwCl) (hP 44 _ rfl) (Option.some.inj ((show ts.vm.findClass _ = some _ from (hKs.2 43 _ rfl).2).symm.trans (hK.2 0 _ rfl).2)) (fun _ _ => ⟨0, rfl, by decide, by decide⟩)) ?_
    refine all_c (by show gC _ _ (SHm _ _ _ _ _ _ _ _ _ _ 62) _ _ _; rw [shm_62]; exact gC_zi (cl := vwCl) (hP 45 _ rfl) (Option.some.inj ((show ts.vm.findClass _ = some _ from (hKs.2 44 _ rfl).2).symm.trans (hK.2 0 _ rfl).2)) (fun _ _ => ⟨0, rfl, by decide, by decide⟩)) ?_
    refine all_c (by show gC _ _ (SHm _ _ _ _ _ _ _ _ _ _ 63) _ _ _; rw [shm_63]; exact gC_zi (cl := vwCl) (hP 46 _ rfl) (Option.some.inj ((show ts.vm.findClass _ = some _ from (hKs.2 45 _ rfl).2).symm.trans (hK.2 1 _ rfl).2)) (fun _ _ => ⟨0, rfl, by decide, by decide⟩)) ?_
    refine all_c (by show gC _ _ (SHm _ _ _ _ _ _ _ _ _ _ 64) _ _ _; rw [shm_64]; exact gC_zi (cl := vwCl) (hP 47 _ rfl) (Option.some.inj ((show ts.vm.findClass _ = some _ from (hKs.2 46 _ rfl).2).symm.trans (hK.2 1 _ rfl).2)) (fun _ _ => ⟨0, rfl, by decide, by decide⟩)) ?_
    refine all_c (by show gC _ _ (SHm _ _ _ _ _ _ _ _ _ _ 66) _ _ _; rw [shm_66]; exact gC_zi (cl := vwCl) (hP 48 _ rfl) (Option.some.inj ((show ts.vm.findClass _ = some _ from (hKs.2 47 _ rfl).2).symm.trans (hK.2 0 _ rfl).2)) (fun _ _ => ⟨0, rfl, by decide, by decide⟩)) ?_
    refine all_c (by show gC _ _ (SHm _ _ _ _ _ _ _ _ _ _ 67) _ _ _; rw [shm_67]; exact gC_zi (cl := vwCl) (hP 49 _ rfl) (Option.some.inj ((show ts.vm.findClass _ = some _ from (hKs.2 48 _ rfl).2).symm.trans (hK.2 0 _ rfl).2)) (fun _ _ => ⟨0, rfl, by decide, by decide⟩)) ?_
    refine all_c (by show gC _ _ (SHm _ _ _ _ _ _ _ _ _ _ 68) _ _ _; rw [shm_68]; exact gC_zi (cl := vwCl) (hP 50 _ rfl) (Option.some.inj ((show ts.vm.findClass _ = some _ from (hKs.2 49 _ rfl).2).symm.trans (hK.2 0 _ rfl).2)) (fun _ _ => ⟨0, rfl, by decide, by decide⟩)) ?_
    refine all_c (by show gC _ _ (SHm _ _ _ _ _ _ _ _ _ _ 69) _ _ _; rw [shm_69]; exact gC_zi (cl := vwCl) (hP 51 _ rfl) (Option.some.inj ((show ts.vm.findClass _ = some _ from (hKs.2 50 _ rfl).2).symm.trans (hK.2 0 _ rfl).2)) (fun _ _ => ⟨0, rfl, by decide, by decide⟩)) ?_
    refine all_c (by show gC _ _ (SHm _ _ _ _ _ _ _ _ _ _ 70) _ _ _; rw [shm_70]; exact gC_zi (cl := vwCl) (hP 52 _ rfl) (Option.some.inj ((show ts.vm.findClass _ = some _ from (hKs.2 51 _ rfl).2).symm.trans (hK.2 0 _ rfl).2)) (fun _ _ => ⟨0, rfl, by decide, by decide⟩)) ?_
    refine all_c (by show gC _ _ (SHm _ _ _ _ _ _ _ _ _ _ 71) _ _ _; rw [shm_71]; exact gC_zi (cl := vwCl) (hP 53 _ rfl) (Option.some.inj ((show ts.vm.findClass _ = some _ from (hKs.2 52 _ rfl).2).symm.trans (hK.2 0 _ rfl).2)) (fun _ _ => ⟨0, rfl, by decide, by decide⟩)) ?_
    refine all_c (by show gC _ _ (SHm _ _ _ _ _ _ _ _ _ _ 72) _ _ _; rw [shm_72]; exact gC_zi (cl := vwCl) (hP 54 _ rfl) (Option.some.inj ((show ts.vm.findClass _ = some _ from (hKs.2 53 _ rfl).2).symm.trans (hK.2 0 _ rfl).2)) (fun _ _ => ⟨0, rfl, by decide, by decide⟩)) ?_
    refine all_c (by show gC _ _ (SHm _ _ _ _ _ _ _ _ _ _ 73) _ _ _; rw [shm_73]; exact gC_zi (cl := vwCl) (hP 55 _ rfl) (Option.some.inj ((show ts.vm.findClass _ = some _ from (hKs.2 54 _ rfl).2).symm.trans (hK.2 0 _ rfl).2)) (fun _ _ => ⟨0, rfl, by decide, by decide⟩)) ?_
    refine all_c (by show gC _ _ (SHm _ _ _ _ _ _ _ _ _ _ 74) _ _ _; rw [shm_74]; exact gC_zi (cl := vwCl) (hP 56 _ rfl) (Option.some.inj ((show ts.vm.findClass _ = some _ from (hKs.2 55 _ rfl).2).symm.trans (hK.2 0 _ rfl).2)) (fun _ _ => ⟨0, rfl, by decide, by decide⟩)) ?_
    refine all_c (by show gC _ _ (SHm _ _ _ _ _ _ _ _ _ _ 76) _ _ _; rw [shm_76]; exact gC_zi (cl := vwCl) (hP 57 _ rfl) (Option.some.inj ((show ts.vm.findClass _ = some _ from (hKs.2 56 _ rfl).2).symm.trans (hK.2 0 _ rfl).2)) (fun _ _ => ⟨0, rfl, by decide, by decide⟩)) ?_
    refine all_c (by show gC _ _ (SHm _ _ _ _ _ _ _ _ _ _ 77) _ _ _; rw [shm_77]; exact gC_zi (cl := vwCl) (hP 58 _ rfl) (Option.some.inj ((show ts.vm.findClass _ = some _ from (hKs.2 57 _ rfl).2).symm.trans (hK.2 0 _ rfl).2)) (fun _ _ => ⟨0, rfl, by decide, by decide⟩)) ?_
    exact all_n
  · have hm := gL_mem (l := msT h0 v) (by rw [hGe]; exact ha)
    refine (show ∀ p ∈ msT h0 v, p.2 = t + 1 → p.1 = v t from all_c (fun h => by cases h) ?_) (a, t + 1) hm rfl
    refine all_c (fun h => by obtain rfl : t = 1 := (by show t = 1; have h : 2 = t + 1 := h; omega); rfl) ?_
    refine all_c (fun h => by obtain rfl : t = 2 := (by show t = 2; have h : 3 = t + 1 := h; omega); rfl) ?_
    refine all_c (fun h => by obtain rfl : t = 4 := (by show t = 4; have h : 5 = t + 1 := h; omega); rfl) ?_
    refine all_c (fun h => by obtain rfl : t = 5 := (by show t = 5; have h : 6 = t + 1 := h; omega); rfl) ?_
    refine all_c (fun h => by obtain rfl : t = 6 := (by show t = 6; have h : 7 = t + 1 := h; omega); rfl) ?_
    refine all_c (fun h => by obtain rfl : t = 7 := (by show t = 7; have h : 8 = t + 1 := h; omega); rfl) ?_
    refine all_c (fun h => by obtain rfl : t = 8 := (by show t = 8; have h : 9 = t + 1 := h; omega); rfl) ?_
    refine all_c (fun h => by obtain rfl : t = 10 := (by show t = 10; have h : 11 = t + 1 := h; omega); rfl) ?_
    refine all_c (fun h => by obtain rfl : t = 17 := (by show t = 17; have h : 18 = t + 1 := h; omega); rfl) ?_
    refine all_c (fun h => by obtain rfl : t = 18 := (by show t = 18; have h : 19 = t + 1 := h; omega); rfl) ?_
    refine all_c (fun h => by obtain rfl : t = 19 := (by show t = 19; have h : 20 = t + 1 := h; omega); rfl) ?_
    refine all_c (fun h => by obtain rfl : t = 20 := (by show t = 20; have h : 21 = t + 1 := h; omega); rfl) ?_
    refine all_c (fun h => by obtain rfl : t = 21 := (by show t = 21; have h : 22 = t + 1 := h; omega); rfl) ?_
    refine all_c (fun h => by obtain rfl : t = 22 := (by show t = 22; have h : 23 = t + 1 := h; omega); rfl) ?_
    refine all_c (fun h => by obtain rfl : t = 23 := (by show t = 23; have h : 24 = t + 1 := h; omega); rfl) ?_
    refine all_c (fun h => by obtain rfl : t = 24 := (by show t = 24; have h : 25 = t + 1 := h; omega); rfl) ?_
    refine all_c (fun h => by obtain rfl : t = 25 := (by show t = 25; have h : 26 = t + 1 := h; omega); rfl) ?_
    refine all_c (fun h => by obtain rfl : t = 26 := (by show t = 26; have h : 27 = t + 1 := h; omega); rfl) ?_
    refine all_c (fun h => by obtain rfl : t = 27 := (by show t = 27; have h : 28 = t + 1 := h; omega); rfl) ?_
    refine all_c (fun h => by obtain rfl : t = 29 := (by show t = 29; have h : 30 = t + 1 := h; omega); rfl) ?_
    refine all_c (fun h => by obtain rfl : t = 30 := (by show t = 30; have h : 31 = t + 1 := h; omega); rfl) ?_
    refine all_c (fun h => by obtain rfl : t = 31 := (by show t = 31; have h : 32 = t + 1 := h; omega); rfl) ?_
    refine all_c (fun h => by obtain rfl : t = 32 := (by show t = 32; have h : 33 = t + 1 := h; omega); rfl) ?_
    refine all_c (fun h => by obtain rfl : t = 33 := (by show t = 33; have h : 34 = t + 1 := h; omega); rfl) ?_
    refine all_c (fun h => by obtain rfl : t = 34 := (by show t = 34; have h : 35 = t + 1 := h; omega); rfl) ?_
    refine all_c (fun h => by obtain rfl : t = 35 := (by show t = 35; have h : 36 = t + 1 := h; omega); rfl) ?_
    refine all_c (fun h => by obtain rfl : t = 36 := (by show t = 36; have h : 37 = t + 1 := h; omega); rfl) ?_
    refine all_c (fun h => by obtain rfl : t = 37 := (by show t = 37; have h : 38 = t + 1 := h; omega); rfl) ?_
    refine all_c (fun h => by obtain rfl : t = 38 := (by show t = 38; have h : 39 = t + 1 := h; omega); rfl) ?_
    refine all_c (fun h => by obtain rfl : t = 39 := (by show t = 39; have h : 40 = t + 1 := h; omega); rfl) ?_
    refine all_c (fun h => by obtain rfl : t = 40 := (by show t = 40; have h : 41 = t + 1 := h; omega); rfl) ?_
    refine all_c (fun h => by obtain rfl : t = 41 := (by show t = 41; have h : 42 = t + 1 := h; omega); rfl) ?_
    refine all_c (fun h => by obtain rfl : t = 43 := (by show t = 43; have h : 44 = t + 1 := h; omega); rfl) ?_
    refine all_c (fun h => by obtain rfl : t = 44 := (by show t = 44; have h : 45 = t + 1 := h; omega); rfl) ?_
    refine all_c (fun h => by obtain rfl : t = 45 := (by show t = 45; have h : 46 = t + 1 := h; omega); rfl) ?_
    refine all_c (fun h => by obtain rfl : t = 46 := (by show t = 46; have h : 47 = t + 1 := h; omega); rfl) ?_
    refine all_c (fun h => by obtain rfl : t = 50 := (by show t = 50; have h : 51 = t + 1 := h; omega); rfl) ?_
    refine all_c (fun h => by obtain rfl : t = 51 := (by show t = 51; have h : 52 = t + 1 := h; omega); rfl) ?_
    refine all_c (fun h => by obtain rfl : t = 55 := (by show t = 55; have h : 56 = t + 1 := h; omega); rfl) ?_
    refine all_c (fun h => by obtain rfl : t = 56 := (by show t = 56; have h : 57 = t + 1 := h; omega); rfl) ?_
    refine all_c (fun h => by obtain rfl : t = 57 := (by show t = 57; have h : 58 = t + 1 := h; omega); rfl) ?_
    refine all_c (fun h => by obtain rfl : t = 58 := (by show t = 58; have h : 59 = t + 1 := h; omega); rfl) ?_
    refine all_c (fun h => by obtain rfl : t = 59 := (by show t = 59; have h : 60 = t + 1 := h; omega); rfl) ?_
    refine all_c (fun h => by obtain rfl : t = 60 := (by show t = 60; have h : 61 = t + 1 := h; omega); rfl) ?_
    refine all_c (fun h => by obtain rfl : t = 61 := (by show t = 61; have h : 62 = t + 1 := h; omega); rfl) ?_
    refine all_c (fun h => by obtain rfl : t = 62 := (by show t = 62; have h : 63 = t + 1 := h; omega); rfl) ?_
    refine all_c (fun h => by obtain rfl : t = 63 := (by show t = 63; have h : 64 = t + 1 := h; omega); rfl) ?_
    refine all_c (fun h => by obtain rfl : t = 65 := (by show t = 65; have h : 66 = t + 1 := h; omega); rfl) ?_
    refine all_c (fun h => by obtain rfl : t = 66 := (by show t = 66; have h : 67 = t + 1 := h; omega); rfl) ?_
    refine all_c (fun h => by obtain rfl : t = 67 := (by show t = 67; have h : 68 = t + 1 := h; omega); rfl) ?_
    refine all_c (fun h => by obtain rfl : t = 68 := (by show t = 68; have h : 69 = t + 1 := h; omega); rfl) ?_
    refine all_c (fun h => by obtain rfl : t = 69 := (by show t = 69; have h : 70 = t + 1 := h; omega); rfl) ?_
    refine all_c (fun h => by obtain rfl : t = 70 := (by show t = 70; have h : 71 = t + 1 := h; omega); rfl) ?_
    refine all_c (fun h => by obtain rfl : t = 71 := (by show t = 71; have h : 72 = t + 1 := h; omega); rfl) ?_
    refine all_c (fun h => by obtain rfl : t = 72 := (by show t = 72; have h : 73 = t + 1 := h; omega); rfl) ?_
    refine all_c (fun h => by obtain rfl : t = 73 := (by show t = 73; have h : 74 = t + 1 := h; omega); rfl) ?_
    refine all_c (fun h => by obtain rfl : t = 75 := (by show t = 75; have h : 76 = t + 1 := h; omega); rfl) ?_
    refine all_c (fun h => by obtain rfl : t = 76 := (by show t = 76; have h : 77 = t + 1 := h; omega); rfl) ?_
    exact all_n
  · have hm := gL_mem (l := msT h0 v) (by rw [hGe]; exact ha)
    refine (show ∀ p ∈ msT h0 v, p.2 = 0 → p.1 = h0 from all_c (fun _ => rfl) ?_) (a, 0) hm rfl
    refine all_c (fun h => by cases h) ?_
    refine all_c (fun h => by cases h) ?_
    refine all_c (fun h => by cases h) ?_
    refine all_c (fun h => by cases h) ?_
    refine all_c (fun h => by cases h) ?_
    refine all_c (fun h => by cases h) ?_
    refine all_c (fun h => by cases h) ?_
    refine all_c (fun h => by cases h) ?_
    refine all_c (fun h => by cases h) ?_
    refine all_c (fun h => by cases h) ?_
    refine all_c (fun h => by cases h) ?_
    refine all_c (fun h => by cases h) ?_
    refine all_c (fun h => by cases h) ?_
    refine all_c (fun h => by cases h) ?_
    refine all_c (fun h => by cases h) ?_
    refine all_c (fun h => by cases h) ?_
    refine all_c (fun h => by cases h) ?_
    refine all_c (fun h => by cases h) ?_
    refine all_c (fun h => by cases h) ?_
    refine all_c (fun h => by cases h) ?_
    refine all_c (fun h => by cases h) ?_
    refine all_c (fun h => by cases h) ?_
    refine all_c (fun h => by cases h) ?_
    refine all_c (fun h => by cases h) ?_
    refine all_c (fun h => by cases h) ?_
    refine all_c (fun h => by cases h) ?_
    refine all_c (fun h => by cases h) ?_
    refine all_c (fun h => by cases h) ?_
    refine all_c (fun h => by cases h) ?_
    refine all_c (fun h => by cases h) ?_
    refine all_c (fun h => by cases h) ?_
    refine all_c (fun h => by cases h) ?_
    refine all_c (fun h => by cases h) ?_
    refine all_c (fun h => by cases h) ?_
    refine all_c (fun h => by cases h) ?_
    refine all_c (fun h => by cases h) ?_
    refine all_c (fun h => by cases h) ?_
    refine all_c (fun h => by cases h) ?_
    refine all_c (fun h => by cases h) ?_
    refine all_c (fun h => by cases h) ?_
    refine all_c (fun h => by cases h) ?_
    refine all_c (fun h => by cases h) ?_
    refine all_c (fun h => by cases h) ?_
    refine all_c (fun h => by cases h) ?_
    refine all_c (fun h => by cases h) ?_
    refine all_c (fun h => by cases h) ?_
    refine all_c (fun h => by cases h) ?_
    refine all_c (fun h => by cases h) ?_
    refine all_c (fun h => by cases h) ?_
    refine all_c (fun h => by cases h) ?_
    refine all_c (fun h => by cases h) ?_
    refine all_c (fun h => by cases h) ?_
    refine all_c (fun h => by cases h) ?_
    refine all_c (fun h => by cases h) ?_
    refine all_c (fun h => by cases h) ?_
    refine all_c (fun h => by cases h) ?_
    refine all_c (fun h => by cases h) ?_
    refine all_c (fun h => by cases h) ?_
    exact all_n
  · have hm := gL_mem (l := msT h0 v) (by rw [hGe]; exact ha)
    refine (show ∀ p ∈ msT h0 v, A p.1 from all_c (hD.2 0 _ rfl) ?_) (a, t) hm
    refine all_c (hD.2 1 _ rfl) ?_
    refine all_c (hD.2 2 _ rfl) ?_
    refine all_c (hD.2 3 _ rfl) ?_
    refine all_c (hD.2 4 _ rfl) ?_
    refine all_c (hD.2 5 _ rfl) ?_
    refine all_c (hD.2 6 _ rfl) ?_
    refine all_c (hD.2 7 _ rfl) ?_
    refine all_c (hD.2 8 _ rfl) ?_
    refine all_c (hD.2 9 _ rfl) ?_
    refine all_c (hD.2 10 _ rfl) ?_
    refine all_c (hD.2 11 _ rfl) ?_
    refine all_c (hD.2 12 _ rfl) ?_
    refine all_c (hD.2 13 _ rfl) ?_
    refine all_c (hD.2 14 _ rfl) ?_
    refine all_c (hD.2 15 _ rfl) ?_
    refine all_c (hD.2 16 _ rfl) ?_
    refine all_c (hD.2 17 _ rfl) ?_
    refine all_c (hD.2 18 _ rfl) ?_
    refine all_c (hD.2 19 _ rfl) ?_
    refine all_c (hD.2 20 _ rfl) ?_
    refine all_c (hD.2 21 _ rfl) ?_
    refine all_c (hD.2 22 _ rfl) ?_
    refine all_c (hD.2 23 _ rfl) ?_
    refine all_c (hD.2 24 _ rfl) ?_
    refine all_c (hD.2 25 _ rfl) ?_
    refine all_c (hD.2 26 _ rfl) ?_
    refine all_c (hD.2 27 _ rfl) ?_
    refine all_c (hD.2 28 _ rfl) ?_
    refine all_c (hD.2 29 _ rfl) ?_
    refine all_c (hD.2 30 _ rfl) ?_
    refine all_c (hD.2 31 _ rfl) ?_
    refine all_c (hD.2 32 _ rfl) ?_
    refine all_c (hD.2 33 _ rfl) ?_
    refine all_c (hD.2 34 _ rfl) ?_
    refine all_c (hD.2 35 _ rfl) ?_
    refine all_c (hD.2 36 _ rfl) ?_
    refine all_c (hD.2 37 _ rfl) ?_
    refine all_c (hD.2 38 _ rfl) ?_
    refine all_c (hD.2 39 _ rfl) ?_
    refine all_c (hD.2 40 _ rfl) ?_
    refine all_c (hD.2 41 _ rfl) ?_
    refine all_c (hD.2 42 _ rfl) ?_
    refine all_c (hD.2 43 _ rfl) ?_
    refine all_c (hD.2 44 _ rfl) ?_
    refine all_c (hD.2 45 _ rfl) ?_
    refine all_c (hD.2 46 _ rfl) ?_
    refine all_c (hD.2 47 _ rfl) ?_
    refine all_c (hD.2 48 _ rfl) ?_
    refine all_c (hD.2 49 _ rfl) ?_
    refine all_c (hD.2 50 _ rfl) ?_
    refine all_c (hD.2 51 _ rfl) ?_
    refine all_c (hD.2 52 _ rfl) ?_
    refine all_c (hD.2 53 _ rfl) ?_
    refine all_c (hD.2 54 _ rfl) ?_
    refine all_c (hD.2 55 _ rfl) ?_
    refine all_c (hD.2 56 _ rfl) ?_
    refine all_c (hD.2 57 _ rfl) ?_
    refine all_c (hD.2 58 _ rfl) ?_
    exact all_n
