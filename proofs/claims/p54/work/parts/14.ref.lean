abbrev tyl (kA : Nat → ClassId) : List (ClassId × FieldType) := [(kA 0, .int), (kA 1, .boolean), (kA 2, .long), (kA 3, .byte), (kA 4, .object "SeaLand$Settler"), (kA 5, .object "SeaLand$Contract"), (kA 6, .object "SeaLand$Work")]
def wLo (z n : Nat → Int) (h b c : Int) (i : Nat) : Int := if 96 ≤ i ∧ i < 192 then -900 - b else if 288 ≤ i ∧ i < 384 then 0 else if 384 ≤ i ∧ i < 480 then z i else if 768 ≤ i ∧ i < 1428 ∧ ((i - 768) % 22 = 1 ∨ (i - 768) % 22 = 2) then 0 else if 768 ≤ i ∧ i < 1428 ∧ (i - 768) % 22 = 4 then 0 else if 768 ≤ i ∧ i < 1428 ∧ 11 ≤ (i - 768) % 22 ∧ (i - 768) % 22 ≤ 16 then 0 else if 768 ≤ i ∧ i < 1428 ∧ (i - 768) % 22 = 17 then 0 else if i = 1428 then c else if i = 1429 then h else if 1430 ≤ i ∧ i < 1442 then -400 else if i = 1442 then 0 else if 1443 ≤ i ∧ i < 1503 ∧ (i - 1443) % 3 = 2 then 0 else if i = 1503 then 0 else if 1504 ≤ i ∧ i < 1624 ∧ (i - 1504) % 2 = 1 then -1 else if i = 1624 then 0 else if 1625 ≤ i ∧ i < 1745 ∧ (i - 1625) % 2 = 1 then 0 else (-2147483648)
def wHi (z n : Nat → Int) (h b c : Int) (i : Nat) : Int := if 96 ≤ i ∧ i < 192 then 300 else if 288 ≤ i ∧ i < 384 then 20 else if 384 ≤ i ∧ i < 480 then n i else if 768 ≤ i ∧ i < 1428 ∧ ((i - 768) % 22 = 1 ∨ (i - 768) % 22 = 2) then 95 else if 768 ≤ i ∧ i < 1428 ∧ (i - 768) % 22 = 4 then 6 else if 768 ≤ i ∧ i < 1428 ∧ 11 ≤ (i - 768) % 22 ∧ (i - 768) % 22 ≤ 16 then 9 else if 768 ≤ i ∧ i < 1428 ∧ (i - 768) % 22 = 17 then 60 else if i = 1428 then c else if i = 1429 then h else if 1430 ≤ i ∧ i < 1442 then 400 else if i = 1442 then 20 else if 1443 ≤ i ∧ i < 1503 ∧ (i - 1443) % 3 = 2 then 500 else if i = 1503 then 60 else if 1504 ≤ i ∧ i < 1624 ∧ (i - 1504) % 2 = 1 then 9 else if i = 1624 then 60 else if 1625 ≤ i ∧ i < 1745 ∧ (i - 1625) % 2 = 1 then 20 else 2147483647
def wX (c : Int) (L K : Nat → Prop) (U V : Nat → Nat) (i : Nat) (x : Int) : Prop := (i < 96 → (L i ↔ x = 1)) ∧ ∀ w : Nat, (w : Int) < c → (i = 768 + 22 * w → (x = 0 ∨ x = 1) → K w) ∧ (i = 769 + 22 * w → x = (U w : Int)) ∧ (i = 770 + 22 * w → x = (V w : Int))
def wP (z n : Nat → Int) (h b c : Int) (L K : Nat → Prop) (U V : Nat → Nat) (i : Nat) (x : Int) : Prop := wLo z n h b c i ≤ x ∧ x ≤ wHi z n h b c i ∧ wX c L K U V i x
/-- two squares with one side in common -/
def wA (u v : Nat) : Prop := v + 12 = u ∨ v + 1 = u ∨ u + 1 = v ∨ u + 12 = v
def wG (c : Int) (L K : Nat → Prop) (U V : Nat → Nat) : Prop := ∀ w : Nat, (w : Int) < c → U w < 96 ∧ V w < 96 ∧ L (U w) ∧ (K w → L (V w)) ∧ wA (U w) (V w) ∧ ∀ v : Nat, v < w → U v ≠ U w
def gq (P : Nat → Int → Prop) : gE := fun _ i v => ∃ x : Int32, v = .int x ∧ P i x.toInt
theorem wX_o {c : Int} {L K : Nat → Prop} {U V : Nat → Nat} {i : Nat} {x : Int} (h : 96 ≤ i ∧ (i < 768 ∨ 1428 ≤ i ∨ 3 ≤ (i - 768) % 22)) (hc : c ≤ 30) : wX c L K U V i x := ⟨fun q => by omega, fun w hw => ⟨fun q => by omega, fun q => by omega, fun q => by omega⟩⟩
theorem wX_n {c : Int} {L K : Nat → Prop} {U V : Nat → Nat} {i : Nat} {x : Int} (h : 768 ≤ i) (hc : 0 ≤ c) (hi : 768 + 22 * c ≤ (i : Int)) : wX c L K U V i x := ⟨fun q => by omega, fun w hw => ⟨fun q => by omega, fun q => by omega, fun q => by omega⟩⟩
theorem wX_k {c : Int} {L K : Nat → Prop} {U V : Nat → Nat} {i : Nat} {x : Int} {u : Nat} (hu : K u) (hi : i = 768 + 22 * u) : wX c L K U V i x := ⟨fun q => by omega, fun w hw => ⟨fun q _ => by rw [show w = u by omega]; exact hu, fun q => by omega, fun q => by omega⟩⟩
abbrev shM (q : Nat → Nat) (im : Int) : gS := .inl (15, 78, gl (gI (-2147483648) 2147483647 :: gX (q 1) 2 :: gX (q 2) 3 :: gI 0 1 :: gX (q 4) 5 :: gX (q 5) 6 :: gX (q 6) 7 :: gX (q 7) 8 :: gX (q 8) 9 :: gI 0 24 :: gX (q 10) 11 :: gI 0 400 :: gI 0 400 :: gI 0 400 :: gI 0 400 :: gI (-2147483648) 2147483647 :: gI (-2147483648) 2147483647 :: gX (q 17) 18 :: gX (q 18) 19 :: gX (q 19) 20 :: gX (q 20) 21 :: gX (q 21) 22 :: gX (q 22) 23 :: gX (q 23) 24 :: gX (q 24) 25 :: gX (q 25) 26 :: gX (q 26) 27 :: gX (q 27) 28 :: gI 0 400 :: gX (q 29) 30 :: gX (q 30) 31 :: gX (q 31) 32 :: gX (q 32) 33 :: gX (q 33) 34 :: gX (q 34) 35 :: gX (q 35) 36 :: gX (q 36) 37 :: gX (q 37) 38 :: gX (q 38) 39 :: gX (q 39) 40 :: gX (q 40) 41 :: gX (q 41) 42 :: gI 0 60 :: gX (q 43) 44 :: gX (q 44) 45 :: gX (q 45) 46 :: gX (q 46) 47 :: gI 0 30 :: gI (-2147483648) 2147483647 :: gI (-2147483648) 2147483647 :: gX (q 50) 51 :: gX (q 51) 52 :: gI 0 1 :: gJ :: gJ :: gX (q 55) 56 :: gX (q 56) 57 :: gX (q 57) 58 :: gX (q 58) 59 :: gX (q 59) 60 :: gX (q 60) 61 :: gX (q 61) 62 :: gX (q 62) 63 :: gX (q 63) 64 :: gI 0 40 :: gX (q 65) 66 :: gX (q 66) 67 :: gX (q 67) 68 :: gX (q 68) 69 :: gX (q 69) 70 :: gX (q 70) 71 :: gX (q 71) 72 :: gX (q 72) 73 :: gX (q 73) 74 :: gI 0 7 :: gX (q 75) 76 :: gX (q 76) 77 :: gI (-2147483648) 2147483647 :: []))
def lqS (lS : Nat → Nat → Int → Prop) : Nat → Int → Prop := fun j x => lS (j / 400) (j % 400) x
def lqB (lB : Nat → Nat → Int → Prop) : Nat → Int → Prop := fun j x => (0 ≤ x ∧ x ≤ 400) ∧ lB (j / 20) (j % 20) x
def lqL (lN : Nat → Int) : Nat → Int → Prop := fun j x => (0 ≤ x ∧ x ≤ 20) ∧ x ≤ lN j
def mqM (u : Int) (P : Nat → Int → Prop) : Nat → Int → Prop := fun j x => (0 ≤ x ∧ x ≤ u) ∧ P j x
def shl_m : List gS := (.inr (0, 0, ga gJ) :: .inr (0, 0, ga gJ) :: .inr (0, 0, ga gJ) :: .inr (0, 0, ga gJ) :: .inr (0, 0, ga gJ) :: .inr (0, 0, ga gJ) :: .inr (0, 0, ga gJ) :: .inr (0, 96, ga (gI (-2147483648) 2147483647)) :: .inr (0, 2304, ga (gI (-2147483648) 2147483647)) :: .inr (0, 2304, ga (gI (-2147483648) 2147483647)) :: .inr (0, 0, ga gJ) :: .inr (3, 400, ga (gI (-2147483648) 2147483647)) :: .inr (0, 0, ga gJ) :: .inr (0, 0, ga gJ) :: .inr (0, 0, ga gJ) :: .inr (0, 0, ga gJ) :: .inr (0, 0, ga gJ) :: .inr (0, 0, ga gJ) :: .inr (0, 5, ga (gI (-2147483648) 2147483647)) :: .inr (0, 0, ga gJ) :: .inr (0, 60, ga (gI (-2147483648) 2147483647)) :: .inr (0, 60, ga (gI (-2147483648) 2147483647)) :: .inr (0, 60, ga (gI (-2147483648) 2147483647)) :: .inr (0, 60, ga (gI (-2147483648) 2147483647)) :: .inr (0, 60, ga (gI (-2147483648) 2147483647)) :: .inr (0, 0, ga gJ) :: .inr (0, 0, ga gJ) :: .inr (0, 0, ga gJ) :: .inr (0, 1200, ga (gI (-2147483648) 2147483647)) :: .inr (0, 0, ga gJ) :: .inr (2, 400, ga gJ) :: .inr (2, 10, ga gJ) :: .inr (0, 60, ga (gI (-2147483648) 2147483647)) :: .inr (0, 60, ga (gI (-2147483648) 2147483647)) :: .inr (0, 60, ga (gI (-2147483648) 2147483647)) :: .inr (0, 60, ga (gI (-2147483648) 2147483647)) :: .inr (1, 60, ga (gI 0 1)) :: .inr (1, 60, ga (gI 0 1)) :: .inr (0, 60, ga (gI (-2147483648) 2147483647)) :: .inr (0, 60, ga (gI (-1) 29)) :: .inr (0, 60, ga (gI (-2147483648) 2147483647)) :: .inr (0, 60, ga (gI (-2147483648) 2147483647)) :: .inr (1, 60, ga (gI 0 1)) :: .inr (0, 0, ga gJ) :: .inr (0, 30, ga (gI (-2147483648) 2147483647)) :: .inr (0, 30, ga (gI (-2147483648) 2147483647)) :: .inr (0, 30, ga (gI (-2147483648) 2147483647)) :: .inr (0, 30, ga (gI (-1) 59)) :: .inr (0, 0, ga gJ) :: .inr (0, 0, ga gJ) :: .inr (0, 0, ga gJ) :: .inr (2, 60, ga gJ) :: .inr (1, 60, ga (gI 0 1)) :: .inr (0, 0, ga gJ) :: .inr (0, 0, ga gJ) :: .inr (0, 0, ga gJ) :: .inr (1, 60, ga (gI 0 1)) :: .inr (0, 40, ga (gI (-2147483648) 2147483647)) :: .inr (0, 40, ga (gI 0 9)) :: .inr (0, 40, ga (gI (-2147483648) 2147483647)) :: .inr (0, 40, ga (gI (-2147483648) 2147483647)) :: .inr (0, 40, ga (gI (-2147483648) 2147483647)) :: .inr (0, 40, ga (gI (-2147483648) 2147483647)) :: .inr (1, 40, ga (gI 0 1)) :: .inr (1, 40, ga (gI 0 1)) :: .inr (0, 0, ga gJ) :: .inr (0, 1001, ga (gI (-2147483648) 2147483647)) :: .inr (0, 1001, ga (gI (-2147483648) 2147483647)) :: .inr (0, 5, ga (gI (-2147483648) 2147483647)) :: .inr (0, 6, ga (gI (-2147483648) 2147483647)) :: .inr (0, 6, ga (gI 0 95)) :: .inr (0, 7, ga (gI (-2147483648) 2147483647)) :: .inr (0, 7, ga (gI 0 20)) :: .inr (0, 7, ga (gI (-2147483648) 2147483647)) :: .inr (0, 7, ga (gI (-2147483648) 2147483647)) :: .inr (0, 0, ga gJ) :: .inr (0, 7, ga (gI (-2147483648) 2147483647)) :: .inr (0, 7, ga (gI (-2147483648) 2147483647)) :: .inr (0, 0, ga gJ) :: [])
def SHm (q : Nat → Nat) (PW PI : Nat → Int → Prop) (im : Int) (PM PT : Nat → Int → Prop) (lS lB lE : Nat → Nat → Int → Prop) (lN : Nat → Int) : Nat → gS := fun t => if t = 0 then shM q im else if t = 2 then .inr (0, 1749, gq PW) else if t = 3 then .inr (0, 1749, gq PI) else if t = 5 then .inr (0, 96, gq (mqM 20 PM)) else if t = 6 then .inr (0, 96, gq (mqM 95 PT)) else if t = 27 then .inr (0, 1200, gq (lqS lS)) else if t = 25 then .inr (0, 60, gq (lqB lB)) else if t = 26 then .inr (0, 60, gq (lqB lE)) else if t = 19 then .inr (0, 3, gq (lqL lN)) else shl_m.getD t (.inr (0, 0, ga gJ))
def SKm : Nat → gS := SHm (fun _ => 0) (fun _ _ => True) (fun _ _ => True) 0 (fun _ _ => True) (fun _ _ => True) (fun _ _ _ => True) (fun _ _ _ => True) (fun _ _ _ => True) (fun _ => 0)
theorem shm_0 {q : Nat → Nat} {PW PI : Nat → Int → Prop} {im : Int} {PM PT : Nat → Int → Prop} {lS lB lE : Nat → Nat → Int → Prop} {lN : Nat → Int} : SHm q PW PI im PM PT lS lB lE lN 0 = shM q im := rfl
theorem skm_0 : SKm 0 = shM (fun _ => 0) 0 := rfl
theorem shm_2 {q : Nat → Nat} {PW PI : Nat → Int → Prop} {im : Int} {PM PT : Nat → Int → Prop} {lS lB lE : Nat → Nat → Int → Prop} {lN : Nat → Int} : SHm q PW PI im PM PT lS lB lE lN 2 = .inr (0, 1749, gq PW) := rfl
theorem skm_2 : SKm 2 = .inr (0, 1749, gq (fun _ _ => True)) := rfl
theorem shm_3 {q : Nat → Nat} {PW PI : Nat → Int → Prop} {im : Int} {PM PT : Nat → Int → Prop} {lS lB lE : Nat → Nat → Int → Prop} {lN : Nat → Int} : SHm q PW PI im PM PT lS lB lE lN 3 = .inr (0, 1749, gq PI) := rfl
theorem skm_3 : SKm 3 = .inr (0, 1749, gq (fun _ _ => True)) := rfl
theorem shm_5 {q : Nat → Nat} {PW PI : Nat → Int → Prop} {im : Int} {PM PT : Nat → Int → Prop} {lS lB lE : Nat → Nat → Int → Prop} {lN : Nat → Int} : SHm q PW PI im PM PT lS lB lE lN 5 = .inr (0, 96, gq (mqM 20 PM)) := rfl
theorem skm_5 : SKm 5 = .inr (0, 96, gq (mqM 20 (fun _ _ => True))) := rfl
theorem shm_6 {q : Nat → Nat} {PW PI : Nat → Int → Prop} {im : Int} {PM PT : Nat → Int → Prop} {lS lB lE : Nat → Nat → Int → Prop} {lN : Nat → Int} : SHm q PW PI im PM PT lS lB lE lN 6 = .inr (0, 96, gq (mqM 95 PT)) := rfl
theorem skm_6 : SKm 6 = .inr (0, 96, gq (mqM 95 (fun _ _ => True))) := rfl
theorem shm_7 {q : Nat → Nat} {PW PI : Nat → Int → Prop} {im : Int} {PM PT : Nat → Int → Prop} {lS lB lE : Nat → Nat → Int → Prop} {lN : Nat → Int} : SHm q PW PI im PM PT lS lB lE lN 7 = .inr (0, 96, ga (gI (-2147483648) 2147483647)) := rfl
theorem skm_7 : SKm 7 = .inr (0, 96, ga (gI (-2147483648) 2147483647)) := rfl
theorem shm_8 {q : Nat → Nat} {PW PI : Nat → Int → Prop} {im : Int} {PM PT : Nat → Int → Prop} {lS lB lE : Nat → Nat → Int → Prop} {lN : Nat → Int} : SHm q PW PI im PM PT lS lB lE lN 8 = .inr (0, 2304, ga (gI (-2147483648) 2147483647)) := rfl
theorem skm_8 : SKm 8 = .inr (0, 2304, ga (gI (-2147483648) 2147483647)) := rfl
theorem shm_9 {q : Nat → Nat} {PW PI : Nat → Int → Prop} {im : Int} {PM PT : Nat → Int → Prop} {lS lB lE : Nat → Nat → Int → Prop} {lN : Nat → Int} : SHm q PW PI im PM PT lS lB lE lN 9 = .inr (0, 2304, ga (gI (-2147483648) 2147483647)) := rfl
theorem skm_9 : SKm 9 = .inr (0, 2304, ga (gI (-2147483648) 2147483647)) := rfl
theorem shm_11 {q : Nat → Nat} {PW PI : Nat → Int → Prop} {im : Int} {PM PT : Nat → Int → Prop} {lS lB lE : Nat → Nat → Int → Prop} {lN : Nat → Int} : SHm q PW PI im PM PT lS lB lE lN 11 = .inr (3, 400, ga (gI (-2147483648) 2147483647)) := rfl
theorem skm_11 : SKm 11 = .inr (3, 400, ga (gI (-2147483648) 2147483647)) := rfl
theorem shm_18 {q : Nat → Nat} {PW PI : Nat → Int → Prop} {im : Int} {PM PT : Nat → Int → Prop} {lS lB lE : Nat → Nat → Int → Prop} {lN : Nat → Int} : SHm q PW PI im PM PT lS lB lE lN 18 = .inr (0, 5, ga (gI (-2147483648) 2147483647)) := rfl
theorem skm_18 : SKm 18 = .inr (0, 5, ga (gI (-2147483648) 2147483647)) := rfl
theorem shm_19 {q : Nat → Nat} {PW PI : Nat → Int → Prop} {im : Int} {PM PT : Nat → Int → Prop} {lS lB lE : Nat → Nat → Int → Prop} {lN : Nat → Int} : SHm q PW PI im PM PT lS lB lE lN 19 = .inr (0, 3, gq (lqL lN)) := rfl
theorem skm_19 : SKm 19 = .inr (0, 3, gq (lqL (fun _ => 0))) := rfl
theorem shm_20 {q : Nat → Nat} {PW PI : Nat → Int → Prop} {im : Int} {PM PT : Nat → Int → Prop} {lS lB lE : Nat → Nat → Int → Prop} {lN : Nat → Int} : SHm q PW PI im PM PT lS lB lE lN 20 = .inr (0, 60, ga (gI (-2147483648) 2147483647)) := rfl
theorem skm_20 : SKm 20 = .inr (0, 60, ga (gI (-2147483648) 2147483647)) := rfl
theorem shm_21 {q : Nat → Nat} {PW PI : Nat → Int → Prop} {im : Int} {PM PT : Nat → Int → Prop} {lS lB lE : Nat → Nat → Int → Prop} {lN : Nat → Int} : SHm q PW PI im PM PT lS lB lE lN 21 = .inr (0, 60, ga (gI (-2147483648) 2147483647)) := rfl
theorem skm_21 : SKm 21 = .inr (0, 60, ga (gI (-2147483648) 2147483647)) := rfl
theorem shm_22 {q : Nat → Nat} {PW PI : Nat → Int → Prop} {im : Int} {PM PT : Nat → Int → Prop} {lS lB lE : Nat → Nat → Int → Prop} {lN : Nat → Int} : SHm q PW PI im PM PT lS lB lE lN 22 = .inr (0, 60, ga (gI (-2147483648) 2147483647)) := rfl
theorem skm_22 : SKm 22 = .inr (0, 60, ga (gI (-2147483648) 2147483647)) := rfl
theorem shm_23 {q : Nat → Nat} {PW PI : Nat → Int → Prop} {im : Int} {PM PT : Nat → Int → Prop} {lS lB lE : Nat → Nat → Int → Prop} {lN : Nat → Int} : SHm q PW PI im PM PT lS lB lE lN 23 = .inr (0, 60, ga (gI (-2147483648) 2147483647)) := rfl
theorem skm_23 : SKm 23 = .inr (0, 60, ga (gI (-2147483648) 2147483647)) := rfl
theorem shm_24 {q : Nat → Nat} {PW PI : Nat → Int → Prop} {im : Int} {PM PT : Nat → Int → Prop} {lS lB lE : Nat → Nat → Int → Prop} {lN : Nat → Int} : SHm q PW PI im PM PT lS lB lE lN 24 = .inr (0, 60, ga (gI (-2147483648) 2147483647)) := rfl
theorem skm_24 : SKm 24 = .inr (0, 60, ga (gI (-2147483648) 2147483647)) := rfl
theorem shm_25 {q : Nat → Nat} {PW PI : Nat → Int → Prop} {im : Int} {PM PT : Nat → Int → Prop} {lS lB lE : Nat → Nat → Int → Prop} {lN : Nat → Int} : SHm q PW PI im PM PT lS lB lE lN 25 = .inr (0, 60, gq (lqB lB)) := rfl
theorem skm_25 : SKm 25 = .inr (0, 60, gq (lqB (fun _ _ _ => True))) := rfl
theorem shm_26 {q : Nat → Nat} {PW PI : Nat → Int → Prop} {im : Int} {PM PT : Nat → Int → Prop} {lS lB lE : Nat → Nat → Int → Prop} {lN : Nat → Int} : SHm q PW PI im PM PT lS lB lE lN 26 = .inr (0, 60, gq (lqB lE)) := rfl
theorem skm_26 : SKm 26 = .inr (0, 60, gq (lqB (fun _ _ _ => True))) := rfl
theorem shm_27 {q : Nat → Nat} {PW PI : Nat → Int → Prop} {im : Int} {PM PT : Nat → Int → Prop} {lS lB lE : Nat → Nat → Int → Prop} {lN : Nat → Int} : SHm q PW PI im PM PT lS lB lE lN 27 = .inr (0, 1200, gq (lqS lS)) := rfl
theorem skm_27 : SKm 27 = .inr (0, 1200, gq (lqS (fun _ _ _ => True))) := rfl
theorem shm_28 {q : Nat → Nat} {PW PI : Nat → Int → Prop} {im : Int} {PM PT : Nat → Int → Prop} {lS lB lE : Nat → Nat → Int → Prop} {lN : Nat → Int} : SHm q PW PI im PM PT lS lB lE lN 28 = .inr (0, 1200, ga (gI (-2147483648) 2147483647)) := rfl
theorem skm_28 : SKm 28 = .inr (0, 1200, ga (gI (-2147483648) 2147483647)) := rfl
theorem shm_30 {q : Nat → Nat} {PW PI : Nat → Int → Prop} {im : Int} {PM PT : Nat → Int → Prop} {lS lB lE : Nat → Nat → Int → Prop} {lN : Nat → Int} : SHm q PW PI im PM PT lS lB lE lN 30 = .inr (2, 400, ga gJ) := rfl
theorem skm_30 : SKm 30 = .inr (2, 400, ga gJ) := rfl
theorem shm_31 {q : Nat → Nat} {PW PI : Nat → Int → Prop} {im : Int} {PM PT : Nat → Int → Prop} {lS lB lE : Nat → Nat → Int → Prop} {lN : Nat → Int} : SHm q PW PI im PM PT lS lB lE lN 31 = .inr (2, 10, ga gJ) := rfl
theorem skm_31 : SKm 31 = .inr (2, 10, ga gJ) := rfl
theorem shm_32 {q : Nat → Nat} {PW PI : Nat → Int → Prop} {im : Int} {PM PT : Nat → Int → Prop} {lS lB lE : Nat → Nat → Int → Prop} {lN : Nat → Int} : SHm q PW PI im PM PT lS lB lE lN 32 = .inr (0, 60, ga (gI (-2147483648) 2147483647)) := rfl
theorem skm_32 : SKm 32 = .inr (0, 60, ga (gI (-2147483648) 2147483647)) := rfl
theorem shm_33 {q : Nat → Nat} {PW PI : Nat → Int → Prop} {im : Int} {PM PT : Nat → Int → Prop} {lS lB lE : Nat → Nat → Int → Prop} {lN : Nat → Int} : SHm q PW PI im PM PT lS lB lE lN 33 = .inr (0, 60, ga (gI (-2147483648) 2147483647)) := rfl
theorem skm_33 : SKm 33 = .inr (0, 60, ga (gI (-2147483648) 2147483647)) := rfl
theorem shm_34 {q : Nat → Nat} {PW PI : Nat → Int → Prop} {im : Int} {PM PT : Nat → Int → Prop} {lS lB lE : Nat → Nat → Int → Prop} {lN : Nat → Int} : SHm q PW PI im PM PT lS lB lE lN 34 = .inr (0, 60, ga (gI (-2147483648) 2147483647)) := rfl
theorem skm_34 : SKm 34 = .inr (0, 60, ga (gI (-2147483648) 2147483647)) := rfl
theorem shm_35 {q : Nat → Nat} {PW PI : Nat → Int → Prop} {im : Int} {PM PT : Nat → Int → Prop} {lS lB lE : Nat → Nat → Int → Prop} {lN : Nat → Int} : SHm q PW PI im PM PT lS lB lE lN 35 = .inr (0, 60, ga (gI (-2147483648) 2147483647)) := rfl
theorem skm_35 : SKm 35 = .inr (0, 60, ga (gI (-2147483648) 2147483647)) := rfl
theorem shm_36 {q : Nat → Nat} {PW PI : Nat → Int → Prop} {im : Int} {PM PT : Nat → Int → Prop} {lS lB lE : Nat → Nat → Int → Prop} {lN : Nat → Int} : SHm q PW PI im PM PT lS lB lE lN 36 = .inr (1, 60, ga (gI 0 1)) := rfl
theorem skm_36 : SKm 36 = .inr (1, 60, ga (gI 0 1)) := rfl
theorem shm_37 {q : Nat → Nat} {PW PI : Nat → Int → Prop} {im : Int} {PM PT : Nat → Int → Prop} {lS lB lE : Nat → Nat → Int → Prop} {lN : Nat → Int} : SHm q PW PI im PM PT lS lB lE lN 37 = .inr (1, 60, ga (gI 0 1)) := rfl
theorem skm_37 : SKm 37 = .inr (1, 60, ga (gI 0 1)) := rfl
theorem shm_38 {q : Nat → Nat} {PW PI : Nat → Int → Prop} {im : Int} {PM PT : Nat → Int → Prop} {lS lB lE : Nat → Nat → Int → Prop} {lN : Nat → Int} : SHm q PW PI im PM PT lS lB lE lN 38 = .inr (0, 60, ga (gI (-2147483648) 2147483647)) := rfl
theorem skm_38 : SKm 38 = .inr (0, 60, ga (gI (-2147483648) 2147483647)) := rfl
theorem shm_39 {q : Nat → Nat} {PW PI : Nat → Int → Prop} {im : Int} {PM PT : Nat → Int → Prop} {lS lB lE : Nat → Nat → Int → Prop} {lN : Nat → Int} : SHm q PW PI im PM PT lS lB lE lN 39 = .inr (0, 60, ga (gI (-1) 29)) := rfl
theorem skm_39 : SKm 39 = .inr (0, 60, ga (gI (-1) 29)) := rfl
theorem shm_40 {q : Nat → Nat} {PW PI : Nat → Int → Prop} {im : Int} {PM PT : Nat → Int → Prop} {lS lB lE : Nat → Nat → Int → Prop} {lN : Nat → Int} : SHm q PW PI im PM PT lS lB lE lN 40 = .inr (0, 60, ga (gI (-2147483648) 2147483647)) := rfl
theorem skm_40 : SKm 40 = .inr (0, 60, ga (gI (-2147483648) 2147483647)) := rfl
theorem shm_41 {q : Nat → Nat} {PW PI : Nat → Int → Prop} {im : Int} {PM PT : Nat → Int → Prop} {lS lB lE : Nat → Nat → Int → Prop} {lN : Nat → Int} : SHm q PW PI im PM PT lS lB lE lN 41 = .inr (0, 60, ga (gI (-2147483648) 2147483647)) := rfl
theorem skm_41 : SKm 41 = .inr (0, 60, ga (gI (-2147483648) 2147483647)) := rfl
theorem shm_42 {q : Nat → Nat} {PW PI : Nat → Int → Prop} {im : Int} {PM PT : Nat → Int → Prop} {lS lB lE : Nat → Nat → Int → Prop} {lN : Nat → Int} : SHm q PW PI im PM PT lS lB lE lN 42 = .inr (1, 60, ga (gI 0 1)) := rfl
theorem skm_42 : SKm 42 = .inr (1, 60, ga (gI 0 1)) := rfl
theorem shm_44 {q : Nat → Nat} {PW PI : Nat → Int → Prop} {im : Int} {PM PT : Nat → Int → Prop} {lS lB lE : Nat → Nat → Int → Prop} {lN : Nat → Int} : SHm q PW PI im PM PT lS lB lE lN 44 = .inr (0, 30, ga (gI (-2147483648) 2147483647)) := rfl
theorem skm_44 : SKm 44 = .inr (0, 30, ga (gI (-2147483648) 2147483647)) := rfl
theorem shm_45 {q : Nat → Nat} {PW PI : Nat → Int → Prop} {im : Int} {PM PT : Nat → Int → Prop} {lS lB lE : Nat → Nat → Int → Prop} {lN : Nat → Int} : SHm q PW PI im PM PT lS lB lE lN 45 = .inr (0, 30, ga (gI (-2147483648) 2147483647)) := rfl
theorem skm_45 : SKm 45 = .inr (0, 30, ga (gI (-2147483648) 2147483647)) := rfl
theorem shm_46 {q : Nat → Nat} {PW PI : Nat → Int → Prop} {im : Int} {PM PT : Nat → Int → Prop} {lS lB lE : Nat → Nat → Int → Prop} {lN : Nat → Int} : SHm q PW PI im PM PT lS lB lE lN 46 = .inr (0, 30, ga (gI (-2147483648) 2147483647)) := rfl
theorem skm_46 : SKm 46 = .inr (0, 30, ga (gI (-2147483648) 2147483647)) := rfl
theorem shm_47 {q : Nat → Nat} {PW PI : Nat → Int → Prop} {im : Int} {PM PT : Nat → Int → Prop} {lS lB lE : Nat → Nat → Int → Prop} {lN : Nat → Int} : SHm q PW PI im PM PT lS lB lE lN 47 = .inr (0, 30, ga (gI (-1) 59)) := rfl
theorem skm_47 : SKm 47 = .inr (0, 30, ga (gI (-1) 59)) := rfl
theorem shm_51 {q : Nat → Nat} {PW PI : Nat → Int → Prop} {im : Int} {PM PT : Nat → Int → Prop} {lS lB lE : Nat → Nat → Int → Prop} {lN : Nat → Int} : SHm q PW PI im PM PT lS lB lE lN 51 = .inr (2, 60, ga gJ) := rfl
theorem skm_51 : SKm 51 = .inr (2, 60, ga gJ) := rfl
theorem shm_52 {q : Nat → Nat} {PW PI : Nat → Int → Prop} {im : Int} {PM PT : Nat → Int → Prop} {lS lB lE : Nat → Nat → Int → Prop} {lN : Nat → Int} : SHm q PW PI im PM PT lS lB lE lN 52 = .inr (1, 60, ga (gI 0 1)) := rfl
theorem skm_52 : SKm 52 = .inr (1, 60, ga (gI 0 1)) := rfl
theorem shm_56 {q : Nat → Nat} {PW PI : Nat → Int → Prop} {im : Int} {PM PT : Nat → Int → Prop} {lS lB lE : Nat → Nat → Int → Prop} {lN : Nat → Int} : SHm q PW PI im PM PT lS lB lE lN 56 = .inr (1, 60, ga (gI 0 1)) := rfl
theorem skm_56 : SKm 56 = .inr (1, 60, ga (gI 0 1)) := rfl
theorem shm_57 {q : Nat → Nat} {PW PI : Nat → Int → Prop} {im : Int} {PM PT : Nat → Int → Prop} {lS lB lE : Nat → Nat → Int → Prop} {lN : Nat → Int} : SHm q PW PI im PM PT lS lB lE lN 57 = .inr (0, 40, ga (gI (-2147483648) 2147483647)) := rfl
theorem skm_57 : SKm 57 = .inr (0, 40, ga (gI (-2147483648) 2147483647)) := rfl
theorem shm_58 {q : Nat → Nat} {PW PI : Nat → Int → Prop} {im : Int} {PM PT : Nat → Int → Prop} {lS lB lE : Nat → Nat → Int → Prop} {lN : Nat → Int} : SHm q PW PI im PM PT lS lB lE lN 58 = .inr (0, 40, ga (gI 0 9)) := rfl
theorem skm_58 : SKm 58 = .inr (0, 40, ga (gI 0 9)) := rfl
theorem shm_59 {q : Nat → Nat} {PW PI : Nat → Int → Prop} {im : Int} {PM PT : Nat → Int → Prop} {lS lB lE : Nat → Nat → Int → Prop} {lN : Nat → Int} : SHm q PW PI im PM PT lS lB lE lN 59 = .inr (0, 40, ga (gI (-2147483648) 2147483647)) := rfl
theorem skm_59 : SKm 59 = .inr (0, 40, ga (gI (-2147483648) 2147483647)) := rfl
theorem shm_60 {q : Nat → Nat} {PW PI : Nat → Int → Prop} {im : Int} {PM PT : Nat → Int → Prop} {lS lB lE : Nat → Nat → Int → Prop} {lN : Nat → Int} : SHm q PW PI im PM PT lS lB lE lN 60 = .inr (0, 40, ga (gI (-2147483648) 2147483647)) := rfl
theorem skm_60 : SKm 60 = .inr (0, 40, ga (gI (-2147483648) 2147483647)) := rfl
theorem shm_61 {q : Nat → Nat} {PW PI : Nat → Int → Prop} {im : Int} {PM PT : Nat → Int → Prop} {lS lB lE : Nat → Nat → Int → Prop} {lN : Nat → Int} : SHm q PW PI im PM PT lS lB lE lN 61 = .inr (0, 40, ga (gI (-2147483648) 2147483647)) := rfl
theorem skm_61 : SKm 61 = .inr (0, 40, ga (gI (-2147483648) 2147483647)) := rfl
theorem shm_62 {q : Nat → Nat} {PW PI : Nat → Int → Prop} {im : Int} {PM PT : Nat → Int → Prop} {lS lB lE : Nat → Nat → Int → Prop} {lN : Nat → Int} : SHm q PW PI im PM PT lS lB lE lN 62 = .inr (0, 40, ga (gI (-2147483648) 2147483647)) := rfl
theorem skm_62 : SKm 62 = .inr (0, 40, ga (gI (-2147483648) 2147483647)) := rfl
theorem shm_63 {q : Nat → Nat} {PW PI : Nat → Int → Prop} {im : Int} {PM PT : Nat → Int → Prop} {lS lB lE : Nat → Nat → Int → Prop} {lN : Nat → Int} : SHm q PW PI im PM PT lS lB lE lN 63 = .inr (1, 40, ga (gI 0 1)) := rfl
theorem skm_63 : SKm 63 = .inr (1, 40, ga (gI 0 1)) := rfl
theorem shm_64 {q : Nat → Nat} {PW PI : Nat → Int → Prop} {im : Int} {PM PT : Nat → Int → Prop} {lS lB lE : Nat → Nat → Int → Prop} {lN : Nat → Int} : SHm q PW PI im PM PT lS lB lE lN 64 = .inr (1, 40, ga (gI 0 1)) := rfl
theorem skm_64 : SKm 64 = .inr (1, 40, ga (gI 0 1)) := rfl
theorem shm_66 {q : Nat → Nat} {PW PI : Nat → Int → Prop} {im : Int} {PM PT : Nat → Int → Prop} {lS lB lE : Nat → Nat → Int → Prop} {lN : Nat → Int} : SHm q PW PI im PM PT lS lB lE lN 66 = .inr (0, 1001, ga (gI (-2147483648) 2147483647)) := rfl
theorem skm_66 : SKm 66 = .inr (0, 1001, ga (gI (-2147483648) 2147483647)) := rfl
theorem shm_67 {q : Nat → Nat} {PW PI : Nat → Int → Prop} {im : Int} {PM PT : Nat → Int → Prop} {lS lB lE : Nat → Nat → Int → Prop} {lN : Nat → Int} : SHm q PW PI im PM PT lS lB lE lN 67 = .inr (0, 1001, ga (gI (-2147483648) 2147483647)) := rfl
theorem skm_67 : SKm 67 = .inr (0, 1001, ga (gI (-2147483648) 2147483647)) := rfl
theorem shm_68 {q : Nat → Nat} {PW PI : Nat → Int → Prop} {im : Int} {PM PT : Nat → Int → Prop} {lS lB lE : Nat → Nat → Int → Prop} {lN : Nat → Int} : SHm q PW PI im PM PT lS lB lE lN 68 = .inr (0, 5, ga (gI (-2147483648) 2147483647)) := rfl
theorem skm_68 : SKm 68 = .inr (0, 5, ga (gI (-2147483648) 2147483647)) := rfl
theorem shm_69 {q : Nat → Nat} {PW PI : Nat → Int → Prop} {im : Int} {PM PT : Nat → Int → Prop} {lS lB lE : Nat → Nat → Int → Prop} {lN : Nat → Int} : SHm q PW PI im PM PT lS lB lE lN 69 = .inr (0, 6, ga (gI (-2147483648) 2147483647)) := rfl
theorem skm_69 : SKm 69 = .inr (0, 6, ga (gI (-2147483648) 2147483647)) := rfl
theorem shm_70 {q : Nat → Nat} {PW PI : Nat → Int → Prop} {im : Int} {PM PT : Nat → Int → Prop} {lS lB lE : Nat → Nat → Int → Prop} {lN : Nat → Int} : SHm q PW PI im PM PT lS lB lE lN 70 = .inr (0, 6, ga (gI 0 95)) := rfl
theorem skm_70 : SKm 70 = .inr (0, 6, ga (gI 0 95)) := rfl
theorem shm_71 {q : Nat → Nat} {PW PI : Nat → Int → Prop} {im : Int} {PM PT : Nat → Int → Prop} {lS lB lE : Nat → Nat → Int → Prop} {lN : Nat → Int} : SHm q PW PI im PM PT lS lB lE lN 71 = .inr (0, 7, ga (gI (-2147483648) 2147483647)) := rfl
theorem skm_71 : SKm 71 = .inr (0, 7, ga (gI (-2147483648) 2147483647)) := rfl
theorem shm_72 {q : Nat → Nat} {PW PI : Nat → Int → Prop} {im : Int} {PM PT : Nat → Int → Prop} {lS lB lE : Nat → Nat → Int → Prop} {lN : Nat → Int} : SHm q PW PI im PM PT lS lB lE lN 72 = .inr (0, 7, ga (gI 0 20)) := rfl
theorem skm_72 : SKm 72 = .inr (0, 7, ga (gI 0 20)) := rfl
theorem shm_73 {q : Nat → Nat} {PW PI : Nat → Int → Prop} {im : Int} {PM PT : Nat → Int → Prop} {lS lB lE : Nat → Nat → Int → Prop} {lN : Nat → Int} : SHm q PW PI im PM PT lS lB lE lN 73 = .inr (0, 7, ga (gI (-2147483648) 2147483647)) := rfl
theorem skm_73 : SKm 73 = .inr (0, 7, ga (gI (-2147483648) 2147483647)) := rfl
theorem shm_74 {q : Nat → Nat} {PW PI : Nat → Int → Prop} {im : Int} {PM PT : Nat → Int → Prop} {lS lB lE : Nat → Nat → Int → Prop} {lN : Nat → Int} : SHm q PW PI im PM PT lS lB lE lN 74 = .inr (0, 7, ga (gI (-2147483648) 2147483647)) := rfl
theorem skm_74 : SKm 74 = .inr (0, 7, ga (gI (-2147483648) 2147483647)) := rfl
theorem shm_76 {q : Nat → Nat} {PW PI : Nat → Int → Prop} {im : Int} {PM PT : Nat → Int → Prop} {lS lB lE : Nat → Nat → Int → Prop} {lN : Nat → Int} : SHm q PW PI im PM PT lS lB lE lN 76 = .inr (0, 7, ga (gI (-2147483648) 2147483647)) := rfl
theorem skm_76 : SKm 76 = .inr (0, 7, ga (gI (-2147483648) 2147483647)) := rfl
theorem shm_77 {q : Nat → Nat} {PW PI : Nat → Int → Prop} {im : Int} {PM PT : Nat → Int → Prop} {lS lB lE : Nat → Nat → Int → Prop} {lN : Nat → Int} : SHm q PW PI im PM PT lS lB lE lN 77 = .inr (0, 7, ga (gI (-2147483648) 2147483647)) := rfl
theorem skm_77 : SKm 77 = .inr (0, 7, ga (gI (-2147483648) 2147483647)) := rfl
theorem shm_o2 {q : Nat → Nat} {PW PI : Nat → Int → Prop} {im : Int} {PM PT : Nat → Int → Prop} {lS lB lE : Nat → Nat → Int → Prop} {lN : Nat → Int} {PW1 : Nat → Int → Prop} : ∀ u, u ≠ 2 → SHm q PW1 PI im PM PT lS lB lE lN u = SHm q PW PI im PM PT lS lB lE lN u := by
  intro u h
  unfold SHm
  simp only [if_neg h]
theorem shm_o3 {q : Nat → Nat} {PW PI : Nat → Int → Prop} {im : Int} {PM PT : Nat → Int → Prop} {lS lB lE : Nat → Nat → Int → Prop} {lN : Nat → Int} {PI1 : Nat → Int → Prop} : ∀ u, u ≠ 3 → SHm q PW PI1 im PM PT lS lB lE lN u = SHm q PW PI im PM PT lS lB lE lN u := by
  intro u h
  unfold SHm
  simp only [if_neg h]
theorem shm_o5 {q : Nat → Nat} {PW PI : Nat → Int → Prop} {im : Int} {PM PT : Nat → Int → Prop} {lS lB lE : Nat → Nat → Int → Prop} {lN : Nat → Int} {PM1 : Nat → Int → Prop} : ∀ u, u ≠ 5 → SHm q PW PI im PM1 PT lS lB lE lN u = SHm q PW PI im PM PT lS lB lE lN u := by
  intro u h
  unfold SHm
  simp only [if_neg h]
theorem shm_o6 {q : Nat → Nat} {PW PI : Nat → Int → Prop} {im : Int} {PM PT : Nat → Int → Prop} {lS lB lE : Nat → Nat → Int → Prop} {lN : Nat → Int} {PT1 : Nat → Int → Prop} : ∀ u, u ≠ 6 → SHm q PW PI im PM PT1 lS lB lE lN u = SHm q PW PI im PM PT lS lB lE lN u := by
  intro u h
  unfold SHm
  simp only [if_neg h]
theorem shm_o27 {q : Nat → Nat} {PW PI : Nat → Int → Prop} {im : Int} {PM PT : Nat → Int → Prop} {lS lB lE : Nat → Nat → Int → Prop} {lN : Nat → Int} {lS1 : Nat → Nat → Int → Prop} : ∀ u, u ≠ 27 → SHm q PW PI im PM PT lS1 lB lE lN u = SHm q PW PI im PM PT lS lB lE lN u := by
  intro u h
  unfold SHm
  simp only [if_neg h]
theorem shm_o25 {q : Nat → Nat} {PW PI : Nat → Int → Prop} {im : Int} {PM PT : Nat → Int → Prop} {lS lB lE : Nat → Nat → Int → Prop} {lN : Nat → Int} {lB1 : Nat → Nat → Int → Prop} : ∀ u, u ≠ 25 → SHm q PW PI im PM PT lS lB1 lE lN u = SHm q PW PI im PM PT lS lB lE lN u := by
  intro u h
  unfold SHm
  simp only [if_neg h]
theorem shm_o26 {q : Nat → Nat} {PW PI : Nat → Int → Prop} {im : Int} {PM PT : Nat → Int → Prop} {lS lB lE : Nat → Nat → Int → Prop} {lN : Nat → Int} {lE1 : Nat → Nat → Int → Prop} : ∀ u, u ≠ 26 → SHm q PW PI im PM PT lS lB lE1 lN u = SHm q PW PI im PM PT lS lB lE lN u := by
  intro u h
  unfold SHm
  simp only [if_neg h]
theorem shm_o19 {q : Nat → Nat} {PW PI : Nat → Int → Prop} {im : Int} {PM PT : Nat → Int → Prop} {lS lB lE : Nat → Nat → Int → Prop} {lN : Nat → Int} {lN1 : Nat → Int} : ∀ u, u ≠ 19 → SHm q PW PI im PM PT lS lB lE lN1 u = SHm q PW PI im PM PT lS lB lE lN u := by
  intro u h
  unfold SHm
  simp only [if_neg h]
theorem SHm_mono {D : va_G} {kA : Nat → ClassId} {q : Nat → Nat} {PW PI : Nat → Int → Prop} {im : Int} {PM PT : Nat → Int → Prop} {lS lB lE : Nat → Nat → Int → Prop} {lN : Nat → Int} {PW1 PI1 PM1 PT1 : Nat → Int → Prop} {lS1 lB1 lE1 : Nat → Nat → Int → Prop} {lN1 : Nat → Int} {G : gT} {H : Heap} (h : gH D kA (SHm q PW PI im PM PT lS lB lE lN) G H) (h1 : ∀ i, i < 1749 → ∀ x, PW i x → PW1 i x) (h2 : ∀ i, i < 1749 → ∀ x, PI i x → PI1 i x) (h2m : ∀ i x, PM i x → PM1 i x) (h2t : ∀ i x, PT i x → PT1 i x) (h3 : ∀ l i, i < 400 → ∀ x, lS l i x → lS1 l i x) (h4 : ∀ l i, i < 20 → ∀ x, lB l i x → lB1 l i x) (h5 : ∀ l i, i < 20 → ∀ x, lE l i x → lE1 l i x) (h6 : ∀ l, lN l ≤ lN1 l) : gH D kA (SHm q PW1 PI1 im PM1 PT1 lS1 lB1 lE1 lN1) G H := by
  intro a t ha
  have hc := h a t ha
  by_cases e0 : t = 0
  · subst e0
    exact hc
  by_cases e1 : t = 2
  · subst e1
    obtain ⟨V, k1, k2⟩ := hc
    refine ⟨V, k1, fun k hk => ?_⟩
    obtain ⟨x, e, j1⟩ := k2 k hk
    exact ⟨x, e, h1 k hk _ j1⟩
  by_cases e2 : t = 3
  · subst e2
    obtain ⟨V, k1, k2⟩ := hc
    refine ⟨V, k1, fun k hk => ?_⟩
    obtain ⟨x, e, j1⟩ := k2 k hk
    exact ⟨x, e, h2 k hk _ j1⟩
  by_cases e3 : t = 5
  · subst e3
    obtain ⟨V, k1, k2⟩ := hc
    refine ⟨V, k1, fun k hk => ?_⟩
    obtain ⟨x, e, j1⟩ := k2 k hk
    exact ⟨x, e, ⟨j1.1, h2m _ _ j1.2⟩⟩
  by_cases e4 : t = 6
  · subst e4
    obtain ⟨V, k1, k2⟩ := hc
    refine ⟨V, k1, fun k hk => ?_⟩
    obtain ⟨x, e, j1⟩ := k2 k hk
    exact ⟨x, e, ⟨j1.1, h2t _ _ j1.2⟩⟩
  by_cases e5 : t = 27
  · subst e5
    obtain ⟨V, k1, k2⟩ := hc
    refine ⟨V, k1, fun k hk => ?_⟩
    obtain ⟨x, e, j1⟩ := k2 k hk
    exact ⟨x, e, h3 _ _ (Nat.mod_lt _ (by decide)) _ j1⟩
  by_cases e6 : t = 25
  · subst e6
    obtain ⟨V, k1, k2⟩ := hc
    refine ⟨V, k1, fun k hk => ?_⟩
    obtain ⟨x, e, j1⟩ := k2 k hk
    exact ⟨x, e, ⟨j1.1, h4 _ _ (Nat.mod_lt _ (by decide)) _ j1.2⟩⟩
  by_cases e7 : t = 26
  · subst e7
    obtain ⟨V, k1, k2⟩ := hc
    refine ⟨V, k1, fun k hk => ?_⟩
    obtain ⟨x, e, j1⟩ := k2 k hk
    exact ⟨x, e, ⟨j1.1, h5 _ _ (Nat.mod_lt _ (by decide)) _ j1.2⟩⟩
  by_cases e8 : t = 19
  · subst e8
    obtain ⟨V, k1, k2⟩ := hc
    refine ⟨V, k1, fun k hk => ?_⟩
    obtain ⟨x, e, j1⟩ := k2 k hk
    exact ⟨x, e, ⟨j1.1, Int.le_trans j1.2 (h6 _)⟩⟩
  have e : ∀ p1 p2 i1 m1 t1 s1 b1 x1 n1, SHm q p1 p2 i1 m1 t1 s1 b1 x1 n1 t = shl_m.getD t (.inr (0, 0, ga gJ)) := fun _ _ _ _ _ _ _ _ _ => by unfold SHm; rw [if_neg e0, if_neg e1, if_neg e2, if_neg e3, if_neg e4, if_neg e5, if_neg e6, if_neg e7, if_neg e8]
  rw [e] at hc ⊢
  exact hc
theorem SHm_w {D : va_G} {kA : Nat → ClassId} {q : Nat → Nat} {PW PI : Nat → Int → Prop} {im : Int} {PM PT : Nat → Int → Prop} {lS lB lE : Nat → Nat → Int → Prop} {lN : Nat → Int} {PW1 : Nat → Int → Prop} {G : gT} {H : Heap} (h : gH D kA (SHm q PW PI im PM PT lS lB lE lN) G H) (h1 : ∀ i, i < 1749 → ∀ x, PW i x → PW1 i x) : gH D kA (SHm q PW1 PI im PM PT lS lB lE lN) G H := SHm_mono h h1 (fun _ _ _ z => z) (fun _ _ z => z) (fun _ _ z => z) (fun _ _ _ _ z => z) (fun _ _ _ _ z => z) (fun _ _ _ _ z => z) (fun _ => Int.le_refl _)
theorem w_hgt {z n : Nat → Int} {h b c : Int} {i : Nat} (hi : 96 ≤ i ∧ i < 192) : wLo z n h b c i = -900 - b ∧ wHi z n h b c i = 300 := by
  unfold wLo wHi
  exact ⟨by rw [if_pos hi], by rw [if_pos hi]⟩
theorem w_dit {z n : Nat → Int} {h b c : Int} {i : Nat} (hi : 288 ≤ i ∧ i < 384) : wLo z n h b c i = 0 ∧ wHi z n h b c i = 20 := by
  unfold wLo wHi
  exact ⟨by rw [if_neg (by omega), if_pos hi], by rw [if_neg (by omega), if_pos hi]⟩
theorem w_wat {z n : Nat → Int} {h b c : Int} {i : Nat} (hi : 384 ≤ i ∧ i < 480) : wLo z n h b c i = z i ∧ wHi z n h b c i = n i := by
  unfold wLo wHi
  exact ⟨by rw [if_neg (by omega), if_neg (by omega), if_pos hi], by rw [if_neg (by omega), if_neg (by omega), if_pos hi]⟩
theorem w_wsq {z n : Nat → Int} {h b c : Int} {i : Nat} (hi : 768 ≤ i ∧ i < 1428 ∧ ((i - 768) % 22 = 1 ∨ (i - 768) % 22 = 2)) : wLo z n h b c i = 0 ∧ wHi z n h b c i = 95 := by
  unfold wLo wHi
  exact ⟨by rw [if_neg (by omega), if_neg (by omega), if_neg (by omega), if_pos hi], by rw [if_neg (by omega), if_neg (by omega), if_neg (by omega), if_pos hi]⟩
theorem w_wld {z n : Nat → Int} {h b c : Int} {i : Nat} (hi : 768 ≤ i ∧ i < 1428 ∧ (i - 768) % 22 = 4) : wLo z n h b c i = 0 ∧ wHi z n h b c i = 6 := by
  unfold wLo wHi
  exact ⟨by rw [if_neg (by omega), if_neg (by omega), if_neg (by omega), if_neg (by omega), if_pos hi], by rw [if_neg (by omega), if_neg (by omega), if_neg (by omega), if_neg (by omega), if_pos hi]⟩
theorem w_wcl {z n : Nat → Int} {h b c : Int} {i : Nat} (hi : 768 ≤ i ∧ i < 1428 ∧ 11 ≤ (i - 768) % 22 ∧ (i - 768) % 22 ≤ 16) : wLo z n h b c i = 0 ∧ wHi z n h b c i = 9 := by
  unfold wLo wHi
  exact ⟨by rw [if_neg (by omega), if_neg (by omega), if_neg (by omega), if_neg (by omega), if_neg (by omega), if_pos hi], by rw [if_neg (by omega), if_neg (by omega), if_neg (by omega), if_neg (by omega), if_neg (by omega), if_pos hi]⟩
theorem w_wsz {z n : Nat → Int} {h b c : Int} {i : Nat} (hi : 768 ≤ i ∧ i < 1428 ∧ (i - 768) % 22 = 17) : wLo z n h b c i = 0 ∧ wHi z n h b c i = 60 := by
  unfold wLo wHi
  exact ⟨by rw [if_neg (by omega), if_neg (by omega), if_neg (by omega), if_neg (by omega), if_neg (by omega), if_neg (by omega), if_pos hi], by rw [if_neg (by omega), if_neg (by omega), if_neg (by omega), if_neg (by omega), if_neg (by omega), if_neg (by omega), if_pos hi]⟩
theorem w_wct {z n : Nat → Int} {h b c : Int} {i : Nat} (hi : i = 1428) : wLo z n h b c i = c ∧ wHi z n h b c i = c := by
  unfold wLo wHi
  exact ⟨by rw [if_neg (by omega), if_neg (by omega), if_neg (by omega), if_neg (by omega), if_neg (by omega), if_neg (by omega), if_neg (by omega), if_pos hi], by rw [if_neg (by omega), if_neg (by omega), if_neg (by omega), if_neg (by omega), if_neg (by omega), if_neg (by omega), if_neg (by omega), if_pos hi]⟩
theorem w_hou {z n : Nat → Int} {h b c : Int} {i : Nat} (hi : i = 1429) : wLo z n h b c i = h ∧ wHi z n h b c i = h := by
  unfold wLo wHi
  exact ⟨by rw [if_neg (by omega), if_neg (by omega), if_neg (by omega), if_neg (by omega), if_neg (by omega), if_neg (by omega), if_neg (by omega), if_neg (by omega), if_pos hi], by rw [if_neg (by omega), if_neg (by omega), if_neg (by omega), if_neg (by omega), if_neg (by omega), if_neg (by omega), if_neg (by omega), if_neg (by omega), if_pos hi]⟩
theorem w_tid {z n : Nat → Int} {h b c : Int} {i : Nat} (hi : 1430 ≤ i ∧ i < 1442) : wLo z n h b c i = -400 ∧ wHi z n h b c i = 400 := by
  unfold wLo wHi
  exact ⟨by rw [if_neg (by omega), if_neg (by omega), if_neg (by omega), if_neg (by omega), if_neg (by omega), if_neg (by omega), if_neg (by omega), if_neg (by omega), if_neg (by omega), if_pos hi], by rw [if_neg (by omega), if_neg (by omega), if_neg (by omega), if_neg (by omega), if_neg (by omega), if_neg (by omega), if_neg (by omega), if_neg (by omega), if_neg (by omega), if_pos hi]⟩
theorem w_stc {z n : Nat → Int} {h b c : Int} {i : Nat} (hi : i = 1442) : wLo z n h b c i = 0 ∧ wHi z n h b c i = 20 := by
  unfold wLo wHi
  exact ⟨by rw [if_neg (by omega), if_neg (by omega), if_neg (by omega), if_neg (by omega), if_neg (by omega), if_neg (by omega), if_neg (by omega), if_neg (by omega), if_neg (by omega), if_neg (by omega), if_pos hi], by rw [if_neg (by omega), if_neg (by omega), if_neg (by omega), if_neg (by omega), if_neg (by omega), if_neg (by omega), if_neg (by omega), if_neg (by omega), if_neg (by omega), if_neg (by omega), if_pos hi]⟩
theorem w_stm {z n : Nat → Int} {h b c : Int} {i : Nat} (hi : 1443 ≤ i ∧ i < 1503 ∧ (i - 1443) % 3 = 2) : wLo z n h b c i = 0 ∧ wHi z n h b c i = 500 := by
  unfold wLo wHi
  exact ⟨by rw [if_neg (by omega), if_neg (by omega), if_neg (by omega), if_neg (by omega), if_neg (by omega), if_neg (by omega), if_neg (by omega), if_neg (by omega), if_neg (by omega), if_neg (by omega), if_neg (by omega), if_pos hi], by rw [if_neg (by omega), if_neg (by omega), if_neg (by omega), if_neg (by omega), if_neg (by omega), if_neg (by omega), if_neg (by omega), if_neg (by omega), if_neg (by omega), if_neg (by omega), if_neg (by omega), if_pos hi]⟩
theorem w_wic {z n : Nat → Int} {h b c : Int} {i : Nat} (hi : i = 1503) : wLo z n h b c i = 0 ∧ wHi z n h b c i = 60 := by
  unfold wLo wHi
  exact ⟨by rw [if_neg (by omega), if_neg (by omega), if_neg (by omega), if_neg (by omega), if_neg (by omega), if_neg (by omega), if_neg (by omega), if_neg (by omega), if_neg (by omega), if_neg (by omega), if_neg (by omega), if_neg (by omega), if_pos hi], by rw [if_neg (by omega), if_neg (by omega), if_neg (by omega), if_neg (by omega), if_neg (by omega), if_neg (by omega), if_neg (by omega), if_neg (by omega), if_neg (by omega), if_neg (by omega), if_neg (by omega), if_neg (by omega), if_pos hi]⟩
theorem w_wid {z n : Nat → Int} {h b c : Int} {i : Nat} (hi : 1504 ≤ i ∧ i < 1624 ∧ (i - 1504) % 2 = 1) : wLo z n h b c i = -1 ∧ wHi z n h b c i = 9 := by
  unfold wLo wHi
  exact ⟨by rw [if_neg (by omega), if_neg (by omega), if_neg (by omega), if_neg (by omega), if_neg (by omega), if_neg (by omega), if_neg (by omega), if_neg (by omega), if_neg (by omega), if_neg (by omega), if_neg (by omega), if_neg (by omega), if_neg (by omega), if_pos hi], by rw [if_neg (by omega), if_neg (by omega), if_neg (by omega), if_neg (by omega), if_neg (by omega), if_neg (by omega), if_neg (by omega), if_neg (by omega), if_neg (by omega), if_neg (by omega), if_neg (by omega), if_neg (by omega), if_neg (by omega), if_pos hi]⟩
theorem w_rac {z n : Nat → Int} {h b c : Int} {i : Nat} (hi : i = 1624) : wLo z n h b c i = 0 ∧ wHi z n h b c i = 60 := by
  unfold wLo wHi
  exact ⟨by rw [if_neg (by omega), if_neg (by omega), if_neg (by omega), if_neg (by omega), if_neg (by omega), if_neg (by omega), if_neg (by omega), if_neg (by omega), if_neg (by omega), if_neg (by omega), if_neg (by omega), if_neg (by omega), if_neg (by omega), if_neg (by omega), if_pos hi], by rw [if_neg (by omega), if_neg (by omega), if_neg (by omega), if_neg (by omega), if_neg (by omega), if_neg (by omega), if_neg (by omega), if_neg (by omega), if_neg (by omega), if_neg (by omega), if_neg (by omega), if_neg (by omega), if_neg (by omega), if_neg (by omega), if_pos hi]⟩
theorem w_rai {z n : Nat → Int} {h b c : Int} {i : Nat} (hi : 1625 ≤ i ∧ i < 1745 ∧ (i - 1625) % 2 = 1) : wLo z n h b c i = 0 ∧ wHi z n h b c i = 20 := by
  unfold wLo wHi
  exact ⟨by rw [if_neg (by omega), if_neg (by omega), if_neg (by omega), if_neg (by omega), if_neg (by omega), if_neg (by omega), if_neg (by omega), if_neg (by omega), if_neg (by omega), if_neg (by omega), if_neg (by omega), if_neg (by omega), if_neg (by omega), if_neg (by omega), if_neg (by omega), if_pos hi], by rw [if_neg (by omega), if_neg (by omega), if_neg (by omega), if_neg (by omega), if_neg (by omega), if_neg (by omega), if_neg (by omega), if_neg (by omega), if_neg (by omega), if_neg (by omega), if_neg (by omega), if_neg (by omega), if_neg (by omega), if_neg (by omega), if_neg (by omega), if_pos hi]⟩
theorem w_fre {z n : Nat → Int} {h b c : Int} {i : Nat} (hi : ¬ (96 ≤ i ∧ i < 192) ∧ ¬ (288 ≤ i ∧ i < 384) ∧ ¬ (384 ≤ i ∧ i < 480) ∧ ¬ (768 ≤ i ∧ i < 1428 ∧ ((i - 768) % 22 = 1 ∨ (i - 768) % 22 = 2)) ∧ ¬ (768 ≤ i ∧ i < 1428 ∧ (i - 768) % 22 = 4) ∧ ¬ (768 ≤ i ∧ i < 1428 ∧ 11 ≤ (i - 768) % 22 ∧ (i - 768) % 22 ≤ 16) ∧ ¬ (768 ≤ i ∧ i < 1428 ∧ (i - 768) % 22 = 17) ∧ ¬ (i = 1428) ∧ ¬ (i = 1429) ∧ ¬ (1430 ≤ i ∧ i < 1442) ∧ ¬ (i = 1442) ∧ ¬ (1443 ≤ i ∧ i < 1503 ∧ (i - 1443) % 3 = 2) ∧ ¬ (i = 1503) ∧ ¬ (1504 ≤ i ∧ i < 1624 ∧ (i - 1504) % 2 = 1) ∧ ¬ (i = 1624) ∧ ¬ (1625 ≤ i ∧ i < 1745 ∧ (i - 1625) % 2 = 1)) : wLo z n h b c i = -2147483648 ∧ wHi z n h b c i = 2147483647 := by
  unfold wLo wHi
  exact ⟨by rw [if_neg (by omega), if_neg (by omega), if_neg (by omega), if_neg (by omega), if_neg (by omega), if_neg (by omega), if_neg (by omega), if_neg (by omega), if_neg (by omega), if_neg (by omega), if_neg (by omega), if_neg (by omega), if_neg (by omega), if_neg (by omega), if_neg (by omega), if_neg (by omega)], by rw [if_neg (by omega), if_neg (by omega), if_neg (by omega), if_neg (by omega), if_neg (by omega), if_neg (by omega), if_neg (by omega), if_neg (by omega), if_neg (by omega), if_neg (by omega), if_neg (by omega), if_neg (by omega), if_neg (by omega), if_neg (by omega), if_neg (by omega), if_neg (by omega)]⟩
theorem w_mono {z z1 n n1 : Nat → Int} {h h1 b b1 c c1 : Int} {i : Nat} (hi : i < 1749) (hz : z1 i ≤ z i) (hn : n i ≤ n1 i) (hb : b ≤ b1) (hh : i = 1429 → h = h1) (hc : i = 1428 → c = c1) : wLo z1 n1 h1 b1 c1 i ≤ wLo z n h b c i ∧ wHi z n h b c i ≤ wHi z1 n1 h1 b1 c1 i := by
  by_cases k0 : 96 ≤ i ∧ i < 192
  · have e1 := w_hgt (z := z) (n := n) (h := h) (b := b) (c := c) k0
    have e2 := w_hgt (z := z1) (n := n1) (h := h1) (b := b1) (c := c1) k0
    rw [e1.1, e1.2, e2.1, e2.2]
    constructor <;> omega
  by_cases k1 : 288 ≤ i ∧ i < 384
  · have e1 := w_dit (z := z) (n := n) (h := h) (b := b) (c := c) k1
    have e2 := w_dit (z := z1) (n := n1) (h := h1) (b := b1) (c := c1) k1
    rw [e1.1, e1.2, e2.1, e2.2]
    constructor <;> omega
  by_cases k2 : 384 ≤ i ∧ i < 480
  · have e1 := w_wat (z := z) (n := n) (h := h) (b := b) (c := c) k2
    have e2 := w_wat (z := z1) (n := n1) (h := h1) (b := b1) (c := c1) k2
    rw [e1.1, e1.2, e2.1, e2.2]
    constructor <;> omega
  by_cases k3 : 768 ≤ i ∧ i < 1428 ∧ ((i - 768) % 22 = 1 ∨ (i - 768) % 22 = 2)
  · have e1 := w_wsq (z := z) (n := n) (h := h) (b := b) (c := c) k3
    have e2 := w_wsq (z := z1) (n := n1) (h := h1) (b := b1) (c := c1) k3
    rw [e1.1, e1.2, e2.1, e2.2]
    constructor <;> omega
  by_cases k4 : 768 ≤ i ∧ i < 1428 ∧ (i - 768) % 22 = 4
  · have e1 := w_wld (z := z) (n := n) (h := h) (b := b) (c := c) k4
    have e2 := w_wld (z := z1) (n := n1) (h := h1) (b := b1) (c := c1) k4
    rw [e1.1, e1.2, e2.1, e2.2]
    constructor <;> omega
  by_cases k5 : 768 ≤ i ∧ i < 1428 ∧ 11 ≤ (i - 768) % 22 ∧ (i - 768) % 22 ≤ 16
  · have e1 := w_wcl (z := z) (n := n) (h := h) (b := b) (c := c) k5
    have e2 := w_wcl (z := z1) (n := n1) (h := h1) (b := b1) (c := c1) k5
    rw [e1.1, e1.2, e2.1, e2.2]
    constructor <;> omega
  by_cases k6 : 768 ≤ i ∧ i < 1428 ∧ (i - 768) % 22 = 17
  · have e1 := w_wsz (z := z) (n := n) (h := h) (b := b) (c := c) k6
    have e2 := w_wsz (z := z1) (n := n1) (h := h1) (b := b1) (c := c1) k6
    rw [e1.1, e1.2, e2.1, e2.2]
    constructor <;> omega
  by_cases k7 : i = 1428
  · have e1 := w_wct (z := z) (n := n) (h := h) (b := b) (c := c) k7
    have e2 := w_wct (z := z1) (n := n1) (h := h1) (b := b1) (c := c1) k7
    rw [e1.1, e1.2, e2.1, e2.2]
    constructor <;> omega
  by_cases k8 : i = 1429
  · have e1 := w_hou (z := z) (n := n) (h := h) (b := b) (c := c) k8
    have e2 := w_hou (z := z1) (n := n1) (h := h1) (b := b1) (c := c1) k8
    rw [e1.1, e1.2, e2.1, e2.2]
    constructor <;> omega
  by_cases k9 : 1430 ≤ i ∧ i < 1442
  · have e1 := w_tid (z := z) (n := n) (h := h) (b := b) (c := c) k9
    have e2 := w_tid (z := z1) (n := n1) (h := h1) (b := b1) (c := c1) k9
    rw [e1.1, e1.2, e2.1, e2.2]
    constructor <;> omega
  by_cases k10 : i = 1442
  · have e1 := w_stc (z := z) (n := n) (h := h) (b := b) (c := c) k10
    have e2 := w_stc (z := z1) (n := n1) (h := h1) (b := b1) (c := c1) k10
    rw [e1.1, e1.2, e2.1, e2.2]
    constructor <;> omega
  by_cases k11 : 1443 ≤ i ∧ i < 1503 ∧ (i - 1443) % 3 = 2
  · have e1 := w_stm (z := z) (n := n) (h := h) (b := b) (c := c) k11
    have e2 := w_stm (z := z1) (n := n1) (h := h1) (b := b1) (c := c1) k11
    rw [e1.1, e1.2, e2.1, e2.2]
    constructor <;> omega
  by_cases k12 : i = 1503
  · have e1 := w_wic (z := z) (n := n) (h := h) (b := b) (c := c) k12
    have e2 := w_wic (z := z1) (n := n1) (h := h1) (b := b1) (c := c1) k12
    rw [e1.1, e1.2, e2.1, e2.2]
    constructor <;> omega
  by_cases k13 : 1504 ≤ i ∧ i < 1624 ∧ (i - 1504) % 2 = 1
  · have e1 := w_wid (z := z) (n := n) (h := h) (b := b) (c := c) k13
    have e2 := w_wid (z := z1) (n := n1) (h := h1) (b := b1) (c := c1) k13
    rw [e1.1, e1.2, e2.1, e2.2]
    constructor <;> omega
  by_cases k14 : i = 1624
  · have e1 := w_rac (z := z) (n := n) (h := h) (b := b) (c := c) k14
    have e2 := w_rac (z := z1) (n := n1) (h := h1) (b := b1) (c := c1) k14
    rw [e1.1, e1.2, e2.1, e2.2]
    constructor <;> omega
  by_cases k15 : 1625 ≤ i ∧ i < 1745 ∧ (i - 1625) % 2 = 1
  · have e1 := w_rai (z := z) (n := n) (h := h) (b := b) (c := c) k15
    have e2 := w_rai (z := z1) (n := n1) (h := h1) (b := b1) (c := c1) k15
    rw [e1.1, e1.2, e2.1, e2.2]
    constructor <;> omega
  have e1 := w_fre (z := z) (n := n) (h := h) (b := b) (c := c) ⟨k0, k1, k2, k3, k4, k5, k6, k7, k8, k9, k10, k11, k12, k13, k14, k15⟩
  have e2 := w_fre (z := z1) (n := n1) (h := h1) (b := b1) (c := c1) ⟨k0, k1, k2, k3, k4, k5, k6, k7, k8, k9, k10, k11, k12, k13, k14, k15⟩
  rw [e1.1, e1.2, e2.1, e2.2]
  constructor <;> omega
theorem wP_mono {z z1 n n1 : Nat → Int} {h h1 b b1 c : Int} {L K : Nat → Prop} {U V : Nat → Nat} {i : Nat} {x : Int} (hi : i < 1749) (hz : z1 i ≤ z i) (hn : n i ≤ n1 i) (hb : b ≤ b1) (hh : i = 1429 → h = h1) (p : wP z n h b c L K U V i x) : wP z1 n1 h1 b1 c L K U V i x := ⟨Int.le_trans (w_mono hi hz hn hb hh (fun _ => rfl)).1 p.1, Int.le_trans p.2.1 (w_mono hi hz hn hb hh (fun _ => rfl)).2, p.2.2⟩
theorem gp_at {z n : Nat → Int} {h b c : Int} {L K : Nat → Prop} {U V : Nat → Nat} {G : gT} {i : Nat} {v : Value} {lo hi : Int} (hv : gq (wP z n h b c L K U V) G i v) (e : wLo z n h b c i = lo ∧ wHi z n h b c i = hi) : gI lo hi G v := by
  obtain ⟨x, rfl, h1, h2, -⟩ := hv
  exact ⟨x, rfl, by rw [← e.1]; exact h1, by rw [← e.2]; exact h2⟩
theorem gw_at {z n : Nat → Int} {h b c : Int} {L K : Nat → Prop} {U V : Nat → Nat} {G : gT} {i : Nat} {v : Value} (hv : gq (wP z n h b c L K U V) G i v) (e : wLo z n h b c i = z i ∧ wHi z n h b c i = n i) (hn : ∀ i, 6500000 ≤ n i ∧ n i ≤ 20200000) (hz : ∀ i, 0 ≤ z i) : ∃ x : Int32, v = .int x ∧ (0 ≤ x.toInt ∧ z i ≤ x.toInt) ∧ (x.toInt ≤ n i ∧ 6500000 ≤ n i ∧ n i ≤ 20200000) := by
  obtain ⟨x, rfl, h1, h2, -⟩ := hv
  rw [e.1] at h1
  exact ⟨x, rfl, ⟨Int.le_trans (hz i) h1, h1⟩, by rw [← e.2]; exact h2, (hn i).1, (hn i).2⟩
theorem gp_any {P : Nat → Int → Prop} {G : gT} {i : Nat} {v : Value} (h : gq P G i v) : gI (-2147483648) 2147483647 G v := by
  obtain ⟨x, rfl, -⟩ := h
  exact gi_all x
theorem gb_at {P : Nat → Nat → Int → Prop} {G : gT} {i : Nat} {v : Value} (h : gq (lqB P) G i v) : gI 0 400 G v := by
  obtain ⟨x, rfl, h, -⟩ := h
  exact ⟨x, rfl, h⟩
theorem gn_at {P : Nat → Int} {G : gT} {i : Nat} {v : Value} (h : gq (lqL P) G i v) : gI 0 20 G v := by
  obtain ⟨x, rfl, h, -⟩ := h
  exact ⟨x, rfl, h⟩
theorem gp_of {z n : Nat → Int} {h b c : Int} {L K : Nat → Prop} {U V : Nat → Nat} {G : gT} {i : Nat} {x : Int32} {lo hi : Int} (hv : gI lo hi G (.int x)) (e : wLo z n h b c i = lo ∧ wHi z n h b c i = hi) (hx : wX c L K U V i x.toInt) : gq (wP z n h b c L K U V) G i (.int x) := by
  obtain ⟨y, e1, h1, h2⟩ := hv
  cases e1
  exact ⟨x, rfl, by rw [e.1]; exact h1, by rw [e.2]; exact h2, hx⟩
theorem el_arr {H : Heap} {a i n : Nat} {cA : ClassId} {V : Nat → Value} (h : H[a]? = some (arrV cA n V)) (hi : i < n) : el H a i = some (V i) := by
  unfold el
  rw [h]
  exact arrV_read _ _ hi
theorem gH_at {D : va_G} {kA : Nat → ClassId} {Sg : Nat → gS} {G : gT} {H : Heap} {a t j n i : Nat} {E : gE} {v : Value} (hT : gH D kA Sg G H) (ha : G a = some t) (hs : Sg t = .inr (j, n, E)) (hi : i < n) (hm : el H a i = some v) : E G i v := by
  obtain ⟨w, e, h⟩ := gH_el hT ha hs hi
  rw [hm] at e
  cases e
  exact h
theorem wq_l {z n : Nat → Int} {h b c : Int} {L K : Nat → Prop} {U V : Nat → Nat} {D : va_G} {kA : Nat → ClassId} {q : Nat → Nat} {PI PM PT : Nat → Int → Prop} {im : Int} {lS lB lE : Nat → Nat → Int → Prop} {lN : Nat → Int} {G : gT} {H : Heap} {i : Nat} {x : Int32} {a : Nat} (hT : gH D kA (SHm q (wP z n h b c L K U V) PI im PM PT lS lB lE lN) G H) (ha : G a = some 2) (hl : i < 1749) (hm : el H a i = some (.int x)) : wP z n h b c L K U V i x.toInt := by
  obtain ⟨y, e, hp⟩ := gH_at hT ha shm_2 hl hm
  cases e
  exact hp
theorem w_wk0 {z n : Nat → Int} {h b c : Int} {L K : Nat → Prop} {U V : Nat → Nat} {i : Nat} {G : gT} (hi : 768 ≤ i ∧ i < 1428) (hx : wX c L K U V i (0 : Int32).toInt) : gq (wP z n h b c L K U V) G i (.int 0) := by
  by_cases k3 : 768 ≤ i ∧ i < 1428 ∧ ((i - 768) % 22 = 1 ∨ (i - 768) % 22 = 2)
  · exact gp_of (gi_of (show (0 : Int32).toInt = 0 from by decide) (by decide) (by decide)) (w_wsq k3) hx
  by_cases k4 : 768 ≤ i ∧ i < 1428 ∧ (i - 768) % 22 = 4
  · exact gp_of (gi_of (show (0 : Int32).toInt = 0 from by decide) (by decide) (by decide)) (w_wld k4) hx
  by_cases k5 : 768 ≤ i ∧ i < 1428 ∧ 11 ≤ (i - 768) % 22 ∧ (i - 768) % 22 ≤ 16
  · exact gp_of (gi_of (show (0 : Int32).toInt = 0 from by decide) (by decide) (by decide)) (w_wcl k5) hx
  by_cases k6 : 768 ≤ i ∧ i < 1428 ∧ (i - 768) % 22 = 17
  · exact gp_of (gi_of (show (0 : Int32).toInt = 0 from by decide) (by decide) (by decide)) (w_wsz k6) hx
  exact gp_of (gi_all _) (w_fre (by omega)) hx
theorem tn_of {i : Int32} {a : Int} (h : i.toInt = a) (h0 : 0 ≤ a) : (i.toNatClampNeg : Int) = a := by rw [← h]; exact Int.toNat_of_nonneg (by rw [h]; exact h0)
theorem mx_f {x y z : Int32} {a b : Int} (e : z = if x < y then y else x) (hx : x.toInt = a) (hy : y.toInt = b) : a ≤ z.toInt ∧ b ≤ z.toInt ∧ (z.toInt = a ∨ z.toInt = b) := by
  have := ti_max e hx hy
  omega
theorem mn_f {x y z : Int32} {a b : Int} (e : z = if y < x then y else x) (hx : x.toInt = a) (hy : y.toInt = b) : z.toInt ≤ a ∧ z.toInt ≤ b ∧ (z.toInt = a ∨ z.toInt = b) := by
  have := ti_min e hx hy
  omega
theorem ab_f {x z : Int32} {a : Int} (e : z = if 0 ≤ x then x else 0 - x) (hx : x.toInt = a) (h : -2147483647 ≤ a) (h1 : a ≤ 2147483647) : (0 ≤ a ∧ z.toInt = a) ∨ (a < 0 ∧ z.toInt = -a) := by
  by_cases q : (0 : Int32) ≤ x
  · rw [if_pos q] at e; subst e; exact Or.inl ⟨ti_le q (by decide) hx, hx⟩
  · rw [if_neg q] at e
    have q1 := ti_nle q (show (0 : Int32).toInt = 0 from by decide) hx
    have := ti_sub e (show (0 : Int32).toInt = 0 from by decide) hx (by omega) (by omega)
    omega
theorem gx_of {D : va_G} {kA : Nat → ClassId} {Sg : Nat → gS} {G : gT} {H : Heap} {a t ci N k b u : Nat} {ks : List (gT → Value → Prop)} (hT : gH D kA Sg G H) (ha : G a = some t) (hs : Sg t = .inl (ci, N, gl ks)) (hk : k < N) (e : ks[k]? = some (gX b u)) : G b = some u := by
  have h := hT a t ha
  rw [hs] at h
  obtain ⟨V, -, hE⟩ := h
  exact (hE k hk _ e).2
def wZ0 : Nat → Int := fun _ => 0
theorem w_wat0 {n : Nat → Int} {h b c : Int} {i : Nat} (hi : 384 ≤ i ∧ i < 480) : wLo wZ0 n h b c i = 0 ∧ wHi wZ0 n h b c i = n i := w_wat hi
theorem gm_at {u : Int} {P : Nat → Int → Prop} {G : gT} {i : Nat} {v : Value} (h : gq (mqM u P) G i v) : gI 0 u G v := by
  obtain ⟨x, rfl, h, -⟩ := h
  exact ⟨x, rfl, h⟩
theorem gm_of {u : Int} {P : Nat → Int → Prop} {G : gT} {i : Nat} {x : Int32} (h : gI 0 u G (.int x)) (hp : P i x.toInt) : gq (mqM u P) G i (.int x) := by
  obtain ⟨y, e, h1, h2⟩ := h
  cases e
  exact ⟨x, rfl, ⟨h1, h2⟩, hp⟩
theorem wG_sq {c : Int} {L K : Nat → Prop} {U V : Nat → Nat} (h : wG c L K U V) {w : Nat} {x : Int32} (hw : (w : Int) < c) (hx : x.toInt = (U w : Int)) : L x.toNatClampNeg := by
  have e : x.toNatClampNeg = U w := by have := tn_of hx (by omega); omega
  rw [e]
  exact (h w hw).2.2.1
theorem wG_to {c : Int} {L K : Nat → Prop} {U V : Nat → Nat} (h : wG c L K U V) {w : Nat} {x : Int32} (hw : (w : Int) < c) (hk : K w) (hx : x.toInt = (V w : Int)) : L x.toNatClampNeg := by
  have e : x.toNatClampNeg = V w := by have := tn_of hx (by omega); omega
  rw [e]
  exact (h w hw).2.2.2.1 hk
section WOF
variable {z n : Nat → Int} {h b c : Int} {L K : Nat → Prop} {U V : Nat → Nat} {D : va_G} {kA : Nat → ClassId} {q : Nat → Nat} {PI PM PT : Nat → Int → Prop} {im : Int} {lS lB lE : Nat → Nat → Int → Prop} {lN : Nat → Int} {G : gT} {H : Heap} {x ix wk : Int32} {a : Nat}
theorem wU_of (hT : gH D kA (SHm q (wP z n h b c L K U V) PI im PM PT lS lB lE lN) G H) (ha : G a = some 2) (hix : ix.toInt = 769 + 22 * wk.toInt) (h0 : 0 ≤ wk.toInt) (hc : wk.toInt < c) (h30 : c ≤ 30) (hm : el H a ix.toNatClampNeg = some (.int x)) : x.toInt = (U wk.toNatClampNeg : Int) := by
  have e1 := tn_of (i := wk) rfl h0
  have e2 := tn_of hix (by omega)
  exact ((wq_l hT ha (by omega) hm).2.2.2 wk.toNatClampNeg (by omega)).2.1 (by omega)
theorem wV_of (hT : gH D kA (SHm q (wP z n h b c L K U V) PI im PM PT lS lB lE lN) G H) (ha : G a = some 2) (hix : ix.toInt = 770 + 22 * wk.toInt) (h0 : 0 ≤ wk.toInt) (hc : wk.toInt < c) (h30 : c ≤ 30) (hm : el H a ix.toNatClampNeg = some (.int x)) : x.toInt = (V wk.toNatClampNeg : Int) := by
  have e1 := tn_of (i := wk) rfl h0
  have e2 := tn_of hix (by omega)
  exact ((wq_l hT ha (by omega) hm).2.2.2 wk.toNatClampNeg (by omega)).2.2 (by omega)
theorem wK_of (hT : gH D kA (SHm q (wP z n h b c L K U V) PI im PM PT lS lB lE lN) G H) (ha : G a = some 2) (hix : ix.toInt = 768 + 22 * wk.toInt) (h0 : 0 ≤ wk.toInt) (hc : wk.toInt < c) (h30 : c ≤ 30) (hm : el H a ix.toNatClampNeg = some (.int x)) (hx : x.toInt = 0 ∨ x.toInt = 1) : K wk.toNatClampNeg := by
  have e1 := tn_of (i := wk) rfl h0
  have e2 := tn_of hix (by omega)
  exact ((wq_l hT ha (by omega) hm).2.2.2 wk.toNatClampNeg (by omega)).1 (by omega) hx
theorem wL_of {sq : Int32} (hT : gH D kA (SHm q (wP z n h b c L K U V) PI im PM PT lS lB lE lN) G H) (ha : G a = some 2) (hix : ix.toInt = sq.toInt) (h0 : 0 ≤ sq.toInt) (hc : sq.toInt < 96) (hm : el H a ix.toNatClampNeg = some (.int x)) : L sq.toNatClampNeg ↔ x.toInt = 1 := by
  have e1 := tn_of (i := sq) rfl h0
  have e2 := tn_of hix h0
  have e3 : ix.toNatClampNeg = sq.toNatClampNeg := by omega
  rw [e3] at hm
  exact (wq_l hT ha (by omega) hm).2.2.1 (by omega)
end WOF
def rnN (n : Nat → Int) (s : Nat) : Nat → Int := fun i => if i < 384 + s then n i + 20 else n i
theorem rn_b (n : Nat → Int) (s i : Nat) : n i ≤ rnN n s i ∧ rnN n s i ≤ n i + 20 ∧ rnN n s i ≤ rnN n (s + 1) i ∧ (i = 384 + s → rnN n s i = n i ∧ rnN n (s + 1) i = n i + 20) := by
  unfold rnN
  refine ⟨?_, ?_, ?_, fun h => ⟨if_neg (by omega), if_pos (by omega)⟩⟩
  · split <;> omega
  · split <;> omega
  · by_cases h : i < 384 + s
    · rw [if_pos h, if_pos (by omega)]; omega
    · rw [if_neg h]; split <;> omega
def dtJ (a b : Nat) : Int := if a < b then 20 else 0
theorem dtJ_b (a b : Nat) : 0 ≤ dtJ a b ∧ dtJ a b ≤ 20 := by unfold dtJ; split <;> omega
theorem dtJ_m {a b c : Nat} (h : b ≤ c) : dtJ a b ≤ dtJ a c := by
  unfold dtJ
  by_cases q : a < b
  · rw [if_pos q, if_pos (by omega)]; omega
  · rw [if_neg q]; split <;> omega
theorem dtJ_s {a b c : Nat} (h : ¬ a < b) (h1 : a < c) : dtJ a b + 20 = dtJ a c := by unfold dtJ; rw [if_neg h, if_pos h1]; rfl
def dtN (n : Nat → Int) (s : Nat) : Nat → Int := fun i => n i + dtJ i (396 + s) + dtJ i (385 + s) + dtJ (i + 1) (384 + s) + dtJ (i + 12) (384 + s)
theorem dt_b (n : Nat → Int) (s i : Nat) : n i ≤ dtN n s i ∧ dtN n s i ≤ n i + 80 := by
  unfold dtN
  have := dtJ_b i (396 + s); have := dtJ_b i (385 + s); have := dtJ_b (i + 1) (384 + s); have := dtJ_b (i + 12) (384 + s)
  omega
theorem dt_m (n : Nat → Int) (s i : Nat) : dtN n s i ≤ dtN n (s + 1) i := by
  unfold dtN
  have := dtJ_m (a := i) (b := 396 + s) (c := 396 + (s + 1)) (by omega); have := dtJ_m (a := i) (b := 385 + s) (c := 385 + (s + 1)) (by omega); have := dtJ_m (a := i + 1) (b := 384 + s) (c := 384 + (s + 1)) (by omega); have := dtJ_m (a := i + 12) (b := 384 + s) (c := 384 + (s + 1)) (by omega)
  omega
theorem dt_s {n : Nat → Int} {s t i : Nat} (h : wA s t) (hi : i = 384 + t) : dtN n s i + 20 ≤ dtN n (s + 1) i := by
  unfold dtN
  have m1 := dtJ_m (a := i) (b := 396 + s) (c := 396 + (s + 1)) (by omega); have m2 := dtJ_m (a := i) (b := 385 + s) (c := 385 + (s + 1)) (by omega); have m3 := dtJ_m (a := i + 1) (b := 384 + s) (c := 384 + (s + 1)) (by omega); have m4 := dtJ_m (a := i + 12) (b := 384 + s) (c := 384 + (s + 1)) (by omega)
  rcases h with h | h | h | h
  · have := dtJ_s (a := i + 12) (b := 384 + s) (c := 384 + (s + 1)) (by omega) (by omega); omega
  · have := dtJ_s (a := i + 1) (b := 384 + s) (c := 384 + (s + 1)) (by omega) (by omega); omega
  · have := dtJ_s (a := i) (b := 385 + s) (c := 385 + (s + 1)) (by omega) (by omega); omega
  · have := dtJ_s (a := i) (b := 396 + s) (c := 396 + (s + 1)) (by omega) (by omega); omega
def lfJ (U V : Nat → Nat) (d : Nat → Nat → Bool) (w i : Nat) : Int := if (List.range w).any (fun v => V v + 384 == i && d (U v) (V v)) then 60 else 0
theorem lfJ_b (U V : Nat → Nat) (d : Nat → Nat → Bool) (w i : Nat) : 0 ≤ lfJ U V d w i ∧ lfJ U V d w i ≤ 60 := by unfold lfJ; split <;> omega
theorem lfJ_m (U V : Nat → Nat) (d : Nat → Nat → Bool) (w i : Nat) : lfJ U V d w i ≤ lfJ U V d (w + 1) i := by
  unfold lfJ
  by_cases h : (List.range w).any (fun v => V v + 384 == i && d (U v) (V v)) = true
  · rw [if_pos h, if_pos]
    · omega
    · rw [List.any_eq_true] at h ⊢
      obtain ⟨v, h1, h2⟩ := h
      exact ⟨v, List.mem_range.mpr (by have := List.mem_range.mp h1; omega), h2⟩
  · rw [if_neg h]; split <;> omega
theorem lfJ_s {U V : Nat → Nat} {d : Nat → Nat → Bool} {w i : Nat} (hi : i = 384 + V w) (hd : d (U w) (V w) = true) (hn : ∀ v, v < w → V v = V w → d (U v) (V v) = true → False) : lfJ U V d w i + 60 = lfJ U V d (w + 1) i := by
  unfold lfJ
  rw [if_neg, if_pos]
  · rfl
  · rw [List.any_eq_true]
    exact ⟨w, List.mem_range.mpr (by omega), by rw [Bool.and_eq_true]; exact ⟨by rw [beq_iff_eq]; omega, hd⟩⟩
  · intro h
    rw [List.any_eq_true] at h
    obtain ⟨v, h1, h2⟩ := h
    rw [Bool.and_eq_true, beq_iff_eq] at h2
    exact hn v (List.mem_range.mp h1) (by omega) h2.2
def lfN (n : Nat → Int) (U V : Nat → Nat) (w : Nat) : Nat → Int := fun i => n i + lfJ U V (fun u v => v + 12 == u) w i + lfJ U V (fun u v => v + 1 == u) w i + lfJ U V (fun u v => u + 1 == v) w i + lfJ U V (fun u v => u + 12 == v) w i
theorem lf_b (n : Nat → Int) (U V : Nat → Nat) (w i : Nat) : n i ≤ lfN n U V w i ∧ lfN n U V w i ≤ n i + 240 := by
  unfold lfN
  have := lfJ_b U V (fun u v => v + 12 == u) w i; have := lfJ_b U V (fun u v => v + 1 == u) w i; have := lfJ_b U V (fun u v => u + 1 == v) w i; have := lfJ_b U V (fun u v => u + 12 == v) w i
  omega
theorem lf_m (n : Nat → Int) (U V : Nat → Nat) (w i : Nat) : lfN n U V w i ≤ lfN n U V (w + 1) i := by
  unfold lfN
  have := lfJ_m U V (fun u v => v + 12 == u) w i; have := lfJ_m U V (fun u v => v + 1 == u) w i; have := lfJ_m U V (fun u v => u + 1 == v) w i; have := lfJ_m U V (fun u v => u + 12 == v) w i
  omega
theorem lf_s {n : Nat → Int} {c : Int} {L K : Nat → Prop} {U V : Nat → Nat} {w i : Nat} (h : wG c L K U V) (hw : (w : Int) < c) (hi : i = 384 + V w) : lfN n U V w i + 60 ≤ lfN n U V (w + 1) i := by
  obtain ⟨-, -, -, -, ha, hd⟩ := h w hw
  unfold lfN
  have m1 := lfJ_m U V (fun u v => v + 12 == u) w i; have m2 := lfJ_m U V (fun u v => v + 1 == u) w i; have m3 := lfJ_m U V (fun u v => u + 1 == v) w i; have m4 := lfJ_m U V (fun u v => u + 12 == v) w i
  rcases ha with h | h | h | h
  · have := lfJ_s (U := U) (d := fun u v => v + 12 == u) hi (by simpa using h) (fun v h1 h2 h3 => hd v h1 (by have q9 : V v + 12 = U v := (by simpa using h3); omega))
    omega
  · have := lfJ_s (U := U) (d := fun u v => v + 1 == u) hi (by simpa using h) (fun v h1 h2 h3 => hd v h1 (by have q9 : V v + 1 = U v := (by simpa using h3); omega))
    omega
  · have := lfJ_s (U := U) (d := fun u v => u + 1 == v) hi (by simpa using h) (fun v h1 h2 h3 => hd v h1 (by have q9 : U v + 1 = V v := (by simpa using h3); omega))
    omega
  · have := lfJ_s (U := U) (d := fun u v => u + 12 == v) hi (by simpa using h) (fun v h1 h2 h3 => hd v h1 (by have q9 : U v + 12 = V v := (by simpa using h3); omega))
    omega
def mvP (mv : Nat → Int) (nz : Nat → Prop) (s : Nat) : Nat → Int → Prop := fun j x => j < s → x ≤ mv j ∧ (x ≠ 0 → nz j)
def mtP (nz : Nat → Prop) : Nat → Int → Prop := fun j t => nz j → ∃ u : Nat, t = (u : Int) ∧ wA j u
def zN1 (mv : Nat → Int) (s : Nat) : Nat → Int := fun i => if 384 ≤ i ∧ i < 384 + s then mv (i - 384) else 0
def zN2 (mv : Nat → Int) (s : Nat) : Nat → Int := fun i => if 384 + s ≤ i ∧ i < 480 then mv (i - 384) else 0
def mvu (mv : Nat → Int) (s : Nat) (v : Int) : Nat → Int := fun j => if j = s then v else mv j
theorem mvu_s (mv : Nat → Int) (s : Nat) (v : Int) : mvu mv s v s = v := if_pos rfl
theorem mvu_o {mv : Nat → Int} {s : Nat} {v : Int} {j : Nat} (h : j ≠ s) : mvu mv s v j = mv j := if_neg h
theorem mvu_0 {mv : Nat → Int} {s : Nat} {v : Int} (h : ∀ j, 0 ≤ mv j) (hv : 0 ≤ v) : ∀ j, 0 ≤ mvu mv s v j := by
  intro j
  unfold mvu
  split
  · exact hv
  · exact h j
theorem z1_0 {mv : Nat → Int} (h : ∀ j, 0 ≤ mv j) (s : Nat) : ∀ i, 0 ≤ zN1 mv s i := by
  intro i
  unfold zN1
  split
  · exact h _
  · omega
theorem z2_0 {mv : Nat → Int} (h : ∀ j, 0 ≤ mv j) (s : Nat) : ∀ i, 0 ≤ zN2 mv s i := by
  intro i
  unfold zN2
  split
  · exact h _
  · omega
theorem z1_st {mv : Nat → Int} (s : Nat) {v : Int} {i : Nat} (hv : i = 384 + s → v ≤ zN1 mv s i ∨ v ≤ 0) (h : i ≠ 384 + s) : zN1 (mvu mv s v) (s + 1) i = zN1 mv s i := by
  unfold zN1
  by_cases q : 384 ≤ i ∧ i < 384 + s
  · rw [if_pos q, if_pos (by omega), mvu_o (by omega)]
  · rw [if_neg q, if_neg (by omega)]
theorem z1_at (mv : Nat → Int) (s : Nat) (v : Int) : zN1 (mvu mv s v) (s + 1) (384 + s) = v := by
  unfold zN1
  rw [if_pos (by omega), show 384 + s - 384 = s by omega, mvu_s]
theorem z1_c (mv : Nat → Int) (s i : Nat) : zN1 (mvu mv s 0) (s + 1) i ≤ zN1 mv s i := by
  by_cases h : i = 384 + s
  · subst h
    rw [z1_at]
    unfold zN1
    rw [if_neg (by omega)]
    omega
  · rw [z1_st s (fun q => absurd q h) h]
    omega
theorem z12 (mv : Nat → Int) (i : Nat) : zN2 mv 0 i ≤ zN1 mv 96 i := by
  unfold zN1 zN2
  by_cases h : 384 ≤ i ∧ i < 480
  · rw [if_pos (by omega)]; (try rw [if_pos (by omega)]); omega
  · rw [if_neg (by omega)]; (try rw [if_neg (by omega)]); omega
theorem z2_m {mv : Nat → Int} (h : ∀ j, 0 ≤ mv j) (s i : Nat) : zN2 mv (s + 1) i ≤ zN2 mv s i := by
  unfold zN2
  by_cases q : 384 + (s + 1) ≤ i ∧ i < 480
  · rw [if_pos q, if_pos (by omega)]; omega
  · rw [if_neg q]
    split
    · exact h _
    · omega
theorem z2_at {mv : Nat → Int} {s i : Nat} (hi : i = 384 + s) (hs : s < 96) : zN2 mv s i = mv s ∧ zN2 mv (s + 1) i = 0 := by
  subst hi
  unfold zN2
  exact ⟨by rw [if_pos (by omega), show 384 + s - 384 = s by omega], if_neg (by omega)⟩
theorem tn_nI {n : Nat} (h : n < 2147483648) : (nI n).toNatClampNeg = n := by
  have := tn_of (nI_toInt h) (by omega)
  omega
theorem SHm_we {D : va_G} {kA : Nat → ClassId} {q : Nat → Nat} {PW PI : Nat → Int → Prop} {im : Int} {PM PT : Nat → Int → Prop} {lS lB lE : Nat → Nat → Int → Prop} {lN : Nat → Int} {PW1 : Nat → Int → Prop} {G : gT} {H : Heap} {a : Nat} (h : gH D kA (SHm q PW PI im PM PT lS lB lE lN) G H) (hu : ∀ b, G b = some 2 → b = a) (h1 : ∀ i, i < 1749 → ∀ x : Int32, el H a i = some (.int x) → PW i x.toInt → PW1 i x.toInt) : gH D kA (SHm q PW1 PI im PM PT lS lB lE lN) G H := by
  intro b t hb
  have hc := h b t hb
  by_cases e : t = 2
  · subst e
    have hba := hu b hb
    subst hba
    obtain ⟨V, k1, k2⟩ := hc
    refine ⟨V, k1, fun k hk => ?_⟩
    obtain ⟨x, e, j1⟩ := k2 k hk
    exact ⟨x, e, h1 k hk x (by rw [el_arr k1 hk, e]) j1⟩
  · rw [shm_o2 t e]
    exact hc
theorem SHm_m {D : va_G} {kA : Nat → ClassId} {q : Nat → Nat} {PW PI : Nat → Int → Prop} {im : Int} {PM PT PM1 PT1 : Nat → Int → Prop} {lS lB lE : Nat → Nat → Int → Prop} {lN : Nat → Int} {G : gT} {H : Heap} (h : gH D kA (SHm q PW PI im PM PT lS lB lE lN) G H) (h2 : ∀ i x, PM i x → PM1 i x) (h3 : ∀ i x, PT i x → PT1 i x) : gH D kA (SHm q PW PI im PM1 PT1 lS lB lE lN) G H := SHm_mono h (fun _ _ _ z => z) (fun _ _ _ z => z) h2 h3 (fun _ _ _ _ z => z) (fun _ _ _ _ z => z) (fun _ _ _ _ z => z) (fun _ => Int.le_refl _)
theorem mm_of {D : va_G} {kA : Nat → ClassId} {Sg : Nat → gS} {G : gT} {H : Heap} {a t j n i : Nat} {u : Int} {P : Nat → Int → Prop} {x : Int32} (hT : gH D kA Sg G H) (ha : G a = some t) (hs : Sg t = .inr (j, n, gq (mqM u P))) (hi : i < n) (hm : el H a i = some (.int x)) : P i x.toInt := by
  obtain ⟨y, e, -, hp⟩ := gH_at hT ha hs hi hm
  cases e
  exact hp
theorem wX_l {c : Int} {L K : Nat → Prop} {U V : Nat → Nat} {i : Nat} {x : Int} (h : i < 96) (hL : L i) (hx : x = 1) : wX c L K U V i x := ⟨fun _ => ⟨fun _ => hx, fun _ => hL⟩, fun w hw => ⟨fun q => by omega, fun q => by omega, fun q => by omega⟩⟩
theorem wP_L {z n : Nat → Int} {h b c : Int} {L L1 K : Nat → Prop} {U V : Nat → Nat} {i : Nat} {x : Int} (hL : i < 96 → (L i ↔ L1 i)) (p : wP z n h b c L K U V i x) : wP z n h b c L1 K U V i x := ⟨p.1, p.2.1, fun hi => (hL hi).symm.trans (p.2.2.1 hi), p.2.2.2⟩
def bK (K : Nat → Prop) (c kd : Int) : Nat → Prop := fun w => ((w : Int) < c ∧ K w) ∨ (w = c.toNat ∧ (kd = 0 ∨ kd = 1))
def bU (U : Nat → Nat) (c : Int) (v : Nat) : Nat → Nat := fun w => if w = c.toNat then v else U w
theorem bU_s (U : Nat → Nat) (c : Int) (v : Nat) : bU U c v c.toNat = v := if_pos rfl
theorem bU_o {U : Nat → Nat} {c : Int} {v w : Nat} (h : (w : Int) < c) : bU U c v w = U w := if_neg (by omega)
theorem bu_hm {z n : Nat → Int} {h b c : Int} {L K : Nat → Prop} {U V : Nat → Nat} {H : Heap} {a k i0 i1 i2 : Nat} {x kd sq to : Int32} (hk : k < 1749) (hne : k ≠ 1428) (hc : 0 ≤ c) (hv : el H a k = some (.int x)) (m0 : el H a i0 = some (.int kd)) (e0 : i0 = 768 + 22 * c.toNat) (m1 : el H a i1 = some (.int sq)) (e1 : i1 = 769 + 22 * c.toNat) (hs : 0 ≤ sq.toInt) (m2 : el H a i2 = some (.int to)) (e2 : i2 = 770 + 22 * c.toNat) (ht : 0 ≤ to.toInt) (p : wP z n h b c L K U V k x.toInt) : wP z n h b (c + 1) L (bK K c kd.toInt) (bU U c sq.toNatClampNeg) (bU V c to.toNatClampNeg) k x.toInt := by
  have mo := w_mono (z := z) (z1 := z) (n := n) (n1 := n) (h := h) (h1 := h) (b := b) (b1 := b) (c := c) (c1 := c + 1) hk (Int.le_refl _) (Int.le_refl _) (Int.le_refl _) (fun _ => rfl) (fun q => absurd q hne)
  refine ⟨Int.le_trans mo.1 p.1, Int.le_trans p.2.1 mo.2, p.2.2.1, fun w hw => ?_⟩
  by_cases hwc : (w : Int) < c
  · obtain ⟨q1, q2, q3⟩ := p.2.2.2 w hwc
    exact ⟨fun e f => Or.inl ⟨hwc, q1 e f⟩, fun e => by rw [bU_o hwc]; exact q2 e, fun e => by rw [bU_o hwc]; exact q3 e⟩
  · have ew : w = c.toNat := by omega
    subst ew
    refine ⟨fun e f => Or.inr ⟨rfl, ?_⟩, fun e => ?_, fun e => ?_⟩
    · rw [e, ← e0] at hv
      rw [← el_val hv m0]
      exact f
    · rw [e, ← e1] at hv
      rw [bU_s, el_val hv m1]
      exact (tn_of rfl hs).symm
    · rw [e, ← e2] at hv
      rw [bU_s, el_val hv m2]
      exact (tn_of rfl ht).symm
theorem bu_G {c : Int} {L K : Nat → Prop} {U V : Nat → Nat} {kd sq to : Int32} (hg : wG c L K U V) (hc : 0 ≤ c) (hs : 0 ≤ sq.toInt ∧ sq.toInt ≤ 95) (ht : 0 ≤ to.toInt ∧ to.toInt ≤ 95) (hl : L sq.toNatClampNeg) (hd : ∀ w : Nat, (w : Int) < c → (U w : Int) ≠ sq.toInt) (ha : to.toInt + 12 = sq.toInt ∨ to.toInt + 1 = sq.toInt ∨ sq.toInt + 1 = to.toInt ∨ sq.toInt + 12 = to.toInt) (hk : (kd.toInt = 0 ∨ kd.toInt = 1) → L to.toNatClampNeg) : wG (c + 1) L (bK K c kd.toInt) (bU U c sq.toNatClampNeg) (bU V c to.toNatClampNeg) := by
  have e1 := tn_of (i := sq) rfl hs.1
  have e2 := tn_of (i := to) rfl ht.1
  intro w hw
  by_cases hwc : (w : Int) < c
  · obtain ⟨q1, q2, q3, q4, q5, q6⟩ := hg w hwc
    rw [bU_o hwc, bU_o hwc]
    refine ⟨q1, q2, q3, fun q => ?_, q5, fun v hv => ?_⟩
    · rcases q with q | q
      · exact q4 q.2
      · exfalso; omega
    · rw [bU_o (by omega)]; exact q6 v hv
  · have ew : w = c.toNat := by omega
    subst ew
    rw [bU_s, bU_s]
    refine ⟨by omega, by omega, hl, fun q => ?_, by unfold wA; omega, fun v hv => ?_⟩
    · rcases q with q | q
      · exfalso; omega
      · exact hk q.2
    · rw [bU_o (by omega)]
      have := hd v (by omega)
      omega
def pcP (P Q : Nat → Int → Prop) (s : Nat) : Nat → Int → Prop := fun i x => if i < s then P i x else Q i x
theorem pc_st {P Q : Nat → Int → Prop} {s k : Nat} {x : Int} (h : k ≠ s) (p : pcP P Q s k x) : pcP P Q (s + 1) k x := by
  unfold pcP at p ⊢
  by_cases q : k < s
  · rw [if_pos q] at p; rw [if_pos (by omega)]; exact p
  · rw [if_neg q] at p; rw [if_neg (by omega)]; exact p
theorem pc_at {P Q : Nat → Int → Prop} {s : Nat} {x : Int} (p : P s x) : pcP P Q (s + 1) s x := by
  unfold pcP
  rw [if_pos (by omega)]
  exact p
theorem pc_all {P Q : Nat → Int → Prop} {s i : Nat} {x : Int} (h : i < s) (p : pcP P Q s i x) : P i x := by
  unfold pcP at p
  rw [if_pos h] at p
  exact p
theorem pc_0 {P Q : Nat → Int → Prop} {i : Nat} {x : Int} (p : Q i x) : pcP P Q 0 i x := by
  unfold pcP
  rw [if_neg (by omega)]
  exact p
theorem gq_at {D : va_G} {kA : Nat → ClassId} {Sg : Nat → gS} {G : gT} {H : Heap} {a t j n i : Nat} {P : Nat → Int → Prop} {x : Int32} (hT : gH D kA Sg G H) (ha : G a = some t) (hs : Sg t = .inr (j, n, gq P)) (hi : i < n) (hm : el H a i = some (.int x)) : P i x.toInt := by
  obtain ⟨y, e, hp⟩ := gH_at hT ha hs hi hm
  cases e
  exact hp

/-! the law's code: what a step does to the depth -/
def stp (x a c : Int) : Prop := ((0 ≤ x ∧ x ≤ 9 ∨ x = 100) ∧ c = a + 1) ∨ (x = 104 ∧ 1 ≤ a ∧ c = a) ∨ ((x = 101 ∨ x = 102 ∨ x = 103 ∨ x = 105 ∨ x = 106) ∧ 2 ≤ a ∧ c = a - 1)
def okS (d : Nat → Int) (i : Nat) (x : Int) : Prop := stp x (d i) (d (i + 1))
def dS (S0 : Nat → Int → Prop) (b v : Int) (d : Nat → Int) : Nat → Int → Prop := fun i x => S0 i x ∧ (b ≤ (i : Int) → (i : Int) < v → okS d i x)
def lD (S : Nat → Int → Prop) (lS : Nat → Nat → Int → Prop) : Nat → Nat → Int → Prop := fun l i x => if l = 2 then S i x else lS l i x
def lG (b : Int) (d : Nat → Int) : Prop := (∀ i : Nat, d i ≤ (i : Int)) ∧ d b.toNat = 0
theorem lG_u {b : Int} {d : Nat → Int} {v : Nat} {dc x : Int} (h : lG b d) (hb : b.toNat ≤ v) (hs : stp x (d v) dc) : lG b (mvu d (v + 1) dc) := by
  refine ⟨fun i => ?_, ?_⟩
  · by_cases e : i = v + 1
    · subst e
      rw [mvu_s]
      have := h.1 v
      unfold stp at hs
      omega
    · rw [mvu_o e]; exact h.1 i
  · rw [mvu_o (by omega)]; exact h.2
theorem lq_2 {S : Nat → Int → Prop} {lS : Nat → Nat → Int → Prop} {j i : Nat} {x : Int} (hj : j = 800 + i) (hi : i < 400) : lqS (lD S lS) j x ↔ S i x := by
  unfold lqS lD
  rw [if_pos (by omega), show j % 400 = i by omega]
theorem lq_o {S S1 : Nat → Int → Prop} {lS : Nat → Nat → Int → Prop} {j : Nat} {x : Int} (hj : j < 800) (h : lqS (lD S lS) j x) : lqS (lD S1 lS) j x := by
  unfold lqS lD at h ⊢
  rw [if_neg (by omega)] at h ⊢
  exact h
theorem ad_hv {S0 : Nat → Int → Prop} {lS : Nat → Nat → Int → Prop} {b vv : Int} {d : Nat → Int} {v j : Nat} {x dc : Int} (hvv : vv = (v : Int)) (hj : j = 800 + v) (hv : v < 400) (h0 : S0 v x) (hs : stp x (d v) dc) : lqS (lD (dS S0 b (vv + 1) (mvu d (v + 1) dc)) lS) j x := by
  rw [lq_2 hj hv]
  refine ⟨h0, fun _ _ => ?_⟩
  unfold okS
  rw [mvu_s, mvu_o (by omega)]
  exact hs
theorem ad_hm {S0 : Nat → Int → Prop} {lS : Nat → Nat → Int → Prop} {b vv : Int} {d : Nat → Int} {v j : Nat} {x dc : Int} (hvv : vv = (v : Int)) (hj : j < 1200) (hne : j ≠ 800 + v) (h : lqS (lD (dS S0 b vv d) lS) j x) : lqS (lD (dS S0 b (vv + 1) (mvu d (v + 1) dc)) lS) j x := by
  by_cases h8 : j < 800
  · exact lq_o h8 h
  · have e : j = 800 + (j - 800) := by omega
    rw [lq_2 e (by omega)] at h ⊢
    refine ⟨h.1, fun h1 h2 => ?_⟩
    have := h.2 h1 (by omega)
    unfold okS at this ⊢
    rw [mvu_o (by omega), mvu_o (by omega)]
    exact this
/-- the lines that are read: where they begin and end, their depths -/
def lwOK (S B E : Nat → Int → Prop) (n : Nat) (v : Int) : Prop := (∀ (i : Nat) x, v ≤ (i : Int) → S i x) ∧ ∃ (bg en : Nat → Int) (dp : Nat → Nat → Int), (∀ i x, S i x → ∀ k, k < n → bg k ≤ (i : Int) → (i : Int) < en k → okS (dp k) i x) ∧ (∀ k y, k < n → B k y → y = bg k) ∧ (∀ k y, k < n → E k y → y ≤ en k) ∧ ∀ k, k < n → dp k (bg k).toNat = 0 ∧ en k ≤ v ∧ ∀ i : Nat, dp k i ≤ (i : Int)
def pset (P : Nat → Int → Prop) (n : Nat) (Q : Int → Prop) : Nat → Int → Prop := fun k y => if k = n then Q y else P k y
theorem pset_s {P : Nat → Int → Prop} {n : Nat} {Q : Int → Prop} {y : Int} : pset P n Q n y ↔ Q y := by unfold pset; rw [if_pos rfl]
theorem pset_o {P : Nat → Int → Prop} {n k : Nat} {Q : Int → Prop} {y : Int} (h : k ≠ n) : pset P n Q k y ↔ P k y := by unfold pset; rw [if_neg h]
theorem lw_next {S B E : Nat → Int → Prop} {n : Nat} {v v1 : Int} {d : Nat → Int} {Q : Int → Prop} (h : lwOK S B E n v) (hd : lG v d) (h1 : v ≤ v1) : lwOK (dS S v v1 d) (pset B n (fun y => y = v)) (pset (pset E n Q) n (fun y => y ≤ v1)) (n + 1) v1 := by
  obtain ⟨h0, bg, en, dp, q1, q2, q3, q4⟩ := h
  refine ⟨fun i x hi => ⟨h0 i x (by omega), fun _ q => by omega⟩, fun k => if k = n then v else bg k, fun k => if k = n then v1 else en k, fun k => if k = n then d else dp k, ?_, ?_, ?_, ?_⟩
  · intro i x hS k hk
    by_cases e : k = n
    · simp only [if_pos e]; exact fun a b => hS.2 a b
    · simp only [if_neg e]; exact q1 i x hS.1 k (by omega)
  · intro k y hk
    by_cases e : k = n
    · subst e; rw [pset_s]; intro z; simpa using z
    · rw [pset_o e]; simp only [if_neg e]; exact q2 k y (by omega)
  · intro k y hk
    by_cases e : k = n
    · subst e; rw [pset_s]; intro z; simpa using z
    · rw [pset_o e, pset_o e]; simp only [if_neg e]; exact q3 k y (by omega)
  · intro k hk
    by_cases e : k = n
    · simp only [if_pos e]; exact ⟨hd.2, Int.le_refl _, hd.1⟩
    · simp only [if_neg e]; obtain ⟨a, b, c⟩ := q4 k (by omega); exact ⟨a, by omega, c⟩
theorem lw_next0 {S B E : Nat → Int → Prop} {n : Nat} {v : Int} (h : lwOK S B E n v) : lwOK S (pset B n (fun y => y = v)) (pset E n (fun y => y ≤ v)) (n + 1) v := by
  obtain ⟨h0, bg, en, dp, q1, q2, q3, q4⟩ := h
  refine ⟨h0, fun k => if k = n then v else bg k, fun k => if k = n then v else en k, fun k => if k = n then (fun _ => 0) else dp k, ?_, ?_, ?_, ?_⟩
  · intro i x hS k hk
    by_cases e : k = n
    · simp only [if_pos e]; intro a b; omega
    · simp only [if_neg e]; exact q1 i x hS k (by omega)
  · intro k y hk
    by_cases e : k = n
    · subst e; rw [pset_s]; intro z; simpa using z
    · rw [pset_o e]; simp only [if_neg e]; exact q2 k y (by omega)
  · intro k y hk
    by_cases e : k = n
    · subst e; rw [pset_s]; intro z; simpa using z
    · rw [pset_o e]; simp only [if_neg e]; exact q3 k y (by omega)
  · intro k hk
    by_cases e : k = n
    · simp only [if_pos e]; exact ⟨by trivial, Int.le_refl _, fun i => by omega⟩
    · simp only [if_neg e]; exact q4 k (by omega)
theorem lw_next1 {S B E : Nat → Int → Prop} {n : Nat} {v : Int} (h : lwOK S B E n v) : lwOK S (pset B n (fun y => y = v)) (pset (pset E n (fun y => y ≤ v)) n (fun y => y ≤ v)) (n + 1) v := by
  have q := lw_next0 h
  have e : pset (pset E n (fun y => y ≤ v)) n (fun y => y ≤ v) = pset E n (fun y => y ≤ v) := by
    funext k y
    unfold pset
    by_cases z : k = n
    · rw [if_pos z, if_pos z]
    · rw [if_neg z]
  rw [e]
  exact q
theorem lw_0 (B E : Nat → Int → Prop) : lwOK (fun _ _ => True) B E 0 0 := ⟨fun _ _ _ => trivial, fun _ => 0, fun _ => 0, fun _ _ => 0, fun _ _ _ k hk => absurd hk (Nat.not_lt_zero k), fun k _ hk => absurd hk (Nat.not_lt_zero k), fun k _ hk => absurd hk (Nat.not_lt_zero k), fun k hk => absurd hk (Nat.not_lt_zero k)⟩
theorem lw_v {S B E : Nat → Int → Prop} {n : Nat} {v v1 : Int} (h : lwOK S B E n v) (h1 : v ≤ v1) : lwOK S B E n v1 := by
  obtain ⟨h0, bg, en, dp, q1, q2, q3, q4⟩ := h
  exact ⟨fun i x hi => h0 i x (by omega), bg, en, dp, q1, q2, q3, fun k hk => ⟨(q4 k hk).1, by have := (q4 k hk).2.1; omega, (q4 k hk).2.2⟩⟩
theorem lw_le {S B E : Nat → Int → Prop} {n m : Nat} {v : Int} (h : lwOK S B E n v) (h1 : m ≤ n) : lwOK S B E m v := by
  obtain ⟨h0, bg, en, dp, q1, q2, q3, q4⟩ := h
  exact ⟨h0, bg, en, dp, fun i x hS k hk => q1 i x hS k (by omega), fun k y hk => q2 k y (by omega), fun k y hk => q3 k y (by omega), fun k hk => q4 k (by omega)⟩
def lawOK (S B E : Nat → Int → Prop) (n : Int) : Prop := lwOK S B E n.toNat 400
def lawsOK (lS lB lE : Nat → Nat → Int → Prop) (lN : Nat → Int) : Prop := ∀ l, l < 2 → lawOK (lS l) (lB l) (lE l) (lN l)
theorem lD_m {S S1 : Nat → Int → Prop} {lS : Nat → Nat → Int → Prop} (h : ∀ i x, S i x → S1 i x) : ∀ l i, i < 400 → ∀ x, lD S lS l i x → lD S1 lS l i x := by
  intro l i _ x q
  unfold lD at q ⊢
  by_cases e : l = 2
  · rw [if_pos e] at q ⊢; exact h i x q
  · rw [if_neg e] at q ⊢; exact q
theorem lD_in (S1 : Nat → Int → Prop) {lS : Nat → Nat → Int → Prop} (h : ∀ i x, S1 i x) (l i : Nat) (x : Int) (q : lS l i x) : lD S1 lS l i x := by
  unfold lD
  by_cases e : l = 2
  · rw [if_pos e]; exact h i x
  · rw [if_neg e]; exact q
theorem lb_hv {B : Nat → Int → Prop} {lB : Nat → Nat → Int → Prop} {n j : Nat} {x : Int} {Q : Int → Prop} (hj : j = 40 + n) (hn : n < 20) (hx : 0 ≤ x ∧ x ≤ 400) (hq : Q x) : lqB (lD (pset B n Q) lB) j x := by
  unfold lqB lD
  rw [if_pos (by omega), show j % 20 = n by omega]
  exact ⟨hx, pset_s.mpr hq⟩
theorem lb_hm {B : Nat → Int → Prop} {lB : Nat → Nat → Int → Prop} {n j : Nat} {x : Int} {Q : Int → Prop} (hj : j < 60) (hne : j ≠ 40 + n) (h : lqB (lD B lB) j x) : lqB (lD (pset B n Q) lB) j x := by
  unfold lqB lD at h ⊢
  refine ⟨h.1, ?_⟩
  have h2 := h.2
  by_cases e : j / 20 = 2
  · rw [if_pos e] at h2 ⊢; exact (pset_o (by omega)).mpr h2
  · rw [if_neg e] at h2 ⊢; exact h2
def lcp {α : Type} (P : Nat → α) (a b : Nat) : Nat → α := fun l => if l = b then P a else P l
def lset (P : Nat → Int) (a : Nat) (v : Int) : Nat → Int := fun l => if l = a then v else P l
def lpc (P : Nat → Nat → Int → Prop) (a b k : Nat) : Nat → Nat → Int → Prop := fun l i x => if l = b then (if i < k then P a i x else P b i x) else P l i x
theorem lpc_0 {P : Nat → Nat → Int → Prop} {a b l i : Nat} {x : Int} (h : P l i x) : lpc P a b 0 l i x := by
  unfold lpc
  by_cases e : l = b
  · rw [if_pos e, if_neg (by omega), ← e]; exact h
  · rw [if_neg e]; exact h
theorem lpc_n {P : Nat → Nat → Int → Prop} {a b l i n : Nat} {x : Int} (hi : i < n) (h : lpc P a b n l i x) : lcp P a b l i x := by
  unfold lpc at h
  unfold lcp
  by_cases e : l = b
  · rw [if_pos e, if_pos hi] at h; rw [if_pos e]; exact h
  · rw [if_neg e] at h; rw [if_neg e]; exact h
theorem lpc_at {P : Nat → Nat → Int → Prop} {a b k : Nat} {x : Int} (h : P a k x) : lpc P a b (k + 1) b k x := by
  unfold lpc
  rw [if_pos rfl, if_pos (by omega)]
  exact h
theorem lpc_a {P : Nat → Nat → Int → Prop} {a b k i : Nat} {x : Int} (hab : a ≠ b) (h : lpc P a b k a i x) : P a i x := by
  unfold lpc at h
  rw [if_neg hab] at h
  exact h
theorem lpc_st {P : Nat → Nat → Int → Prop} {a b k l i : Nat} {x : Int} (hne : ¬ (l = b ∧ i = k)) (h : lpc P a b k l i x) : lpc P a b (k + 1) l i x := by
  unfold lpc at h ⊢
  by_cases e : l = b
  · rw [if_pos e] at h ⊢
    by_cases q : i < k
    · rw [if_pos q] at h; rw [if_pos (by omega)]; exact h
    · rw [if_neg q] at h; rw [if_neg (by omega)]; exact h
  · rw [if_neg e] at h ⊢; exact h
theorem laws_D {lS lB lE : Nat → Nat → Int → Prop} {lN : Nat → Int} {S B E : Nat → Int → Prop} (h : lawsOK lS lB lE lN) : lawsOK (lD S lS) (lD B lB) (lD E lE) lN := by
  intro l hl
  have q := h l hl
  have e : ∀ (X : Nat → Int → Prop) (lX : Nat → Nat → Int → Prop), lD X lX l = lX l := fun X lX => by
    funext i x
    unfold lD
    rw [if_neg (by omega)]
  rw [e, e, e]
  exact q
theorem laws_c {lS lB lE : Nat → Nat → Int → Prop} {lN : Nat → Int} {S B E : Nat → Int → Prop} {n : Int32} {b : Nat} (h : lawsOK lS lB lE lN) (hb : b < 2) (hn : 0 ≤ n.toInt) (hw : lwOK S B E n.toNatClampNeg 400) : lawsOK (lcp (lD S lS) 2 b) (lcp (lD B lB) 2 b) (lcp (lD E lE) 2 b) (lcp (lset lN 2 n.toInt) 2 b) := by
  intro l hl
  by_cases e : l = b
  · have e2 : ∀ (X : Nat → Int → Prop) (lX : Nat → Nat → Int → Prop), lcp (lD X lX) 2 b l = X := fun X lX => by
      funext i x
      unfold lcp lD
      rw [if_pos e, if_pos rfl]
    have e3 : lcp (lset lN 2 n.toInt) 2 b l = n.toInt := by
      unfold lcp lset
      rw [if_pos e, if_pos rfl]
    rw [e2, e2, e2, e3]
    exact hw
  · have e2 : ∀ (X : Nat → Int → Prop) (lX : Nat → Nat → Int → Prop), lcp (lD X lX) 2 b l = lX l := fun X lX => by
      funext i x
      unfold lcp lD
      rw [if_neg e, if_neg (by omega)]
    have e3 : lcp (lset lN 2 n.toInt) 2 b l = lN l := by
      unfold lcp lset
      rw [if_neg e, if_neg (by omega)]
    rw [e2, e2, e2, e3]
    exact h l hl
theorem laws_10 {lS lB lE : Nat → Nat → Int → Prop} {lN : Nat → Int} (h : lawsOK lS lB lE lN) : lawsOK (lcp lS 1 0) (lcp lB 1 0) (lcp lE 1 0) (lcp lN 1 0) := by
  intro l hl
  unfold lcp
  by_cases e : l = 0
  · simp only [if_pos e]; exact h 1 (by omega)
  · simp only [if_neg e]; exact h l hl

