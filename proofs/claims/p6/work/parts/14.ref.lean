abbrev tyl (kA : Nat → ClassId) : List (ClassId × FieldType) := [(kA 0, .int), (kA 1, .boolean), (kA 2, .long), (kA 3, .byte), (kA 4, .object "SeaLand$Settler"), (kA 5, .object "SeaLand$Contract"), (kA 6, .object "SeaLand$Work")]
def wLo (n h b m c : Int) (i : Nat) : Int := if 96 ≤ i ∧ i < 192 then -900 - b else if 288 ≤ i ∧ i < 384 then 0 else if 384 ≤ i ∧ i < 480 then 0 else if 768 ≤ i ∧ i < 1428 ∧ ((i - 768) % 22 = 1 ∨ (i - 768) % 22 = 2) then 0 else if 768 ≤ i ∧ i < 1428 ∧ (i - 768) % 22 = 4 then 0 else if 768 ≤ i ∧ i < 1428 ∧ 11 ≤ (i - 768) % 22 ∧ (i - 768) % 22 ≤ 16 then 0 else if 768 ≤ i ∧ i < 1428 ∧ (i - 768) % 22 = 17 then 0 else if i = 1428 then m else if i = 1429 then h else if 1430 ≤ i ∧ i < 1442 then -400 else if i = 1442 then 0 else if 1443 ≤ i ∧ i < 1503 ∧ (i - 1443) % 3 = 2 then 0 else if i = 1503 then 0 else if 1504 ≤ i ∧ i < 1624 ∧ (i - 1504) % 2 = 1 then -1 else if i = 1624 then 0 else if 1625 ≤ i ∧ i < 1745 ∧ (i - 1625) % 2 = 1 then 0 else (-2147483648)
def wHi (n h b m c : Int) (i : Nat) : Int := if 96 ≤ i ∧ i < 192 then 300 else if 288 ≤ i ∧ i < 384 then 20 else if 384 ≤ i ∧ i < 480 then n else if 768 ≤ i ∧ i < 1428 ∧ ((i - 768) % 22 = 1 ∨ (i - 768) % 22 = 2) then 95 else if 768 ≤ i ∧ i < 1428 ∧ (i - 768) % 22 = 4 then 6 else if 768 ≤ i ∧ i < 1428 ∧ 11 ≤ (i - 768) % 22 ∧ (i - 768) % 22 ≤ 16 then 9 else if 768 ≤ i ∧ i < 1428 ∧ (i - 768) % 22 = 17 then 60 else if i = 1428 then c else if i = 1429 then h else if 1430 ≤ i ∧ i < 1442 then 400 else if i = 1442 then 20 else if 1443 ≤ i ∧ i < 1503 ∧ (i - 1443) % 3 = 2 then 500 else if i = 1503 then 60 else if 1504 ≤ i ∧ i < 1624 ∧ (i - 1504) % 2 = 1 then 9 else if i = 1624 then 60 else if 1625 ≤ i ∧ i < 1745 ∧ (i - 1625) % 2 = 1 then 20 else 2147483647
def wX (c : Int) (L K : Nat → Prop) (i : Nat) (x : Int) : Prop := (i < 96 → L i → x = 1) ∧ ∀ w : Nat, (w : Int) < c → (i = 768 + 22 * w → (x = 0 ∨ x = 1) → K w) ∧ (i = 769 + 22 * w → ∃ s : Nat, x = (s : Int) ∧ L s) ∧ (i = 770 + 22 * w → K w → ∃ s : Nat, x = (s : Int) ∧ L s)
def wP (n h b m c : Int) (L K : Nat → Prop) (i : Nat) (x : Int) : Prop := wLo n h b m c i ≤ x ∧ x ≤ wHi n h b m c i ∧ wX c L K i x
def gq (P : Nat → Int → Prop) : gE := fun _ i v => ∃ x : Int32, v = .int x ∧ P i x.toInt
theorem wX_o {c : Int} {L K : Nat → Prop} {i : Nat} {x : Int} (h : 96 ≤ i ∧ (i < 768 ∨ 1428 ≤ i ∨ 3 ≤ (i - 768) % 22)) (hc : c ≤ 30) : wX c L K i x := ⟨fun q => by omega, fun w hw => ⟨fun q => by omega, fun q => by omega, fun q => by omega⟩⟩
theorem wX_l {c : Int} {L K : Nat → Prop} {i : Nat} {x : Int} (h : i < 96) (hx : x = 1) : wX c L K i x := ⟨fun _ _ => hx, fun w hw => ⟨fun q => by omega, fun q => by omega, fun q => by omega⟩⟩
theorem wX_n {c : Int} {L K : Nat → Prop} {i : Nat} {x : Int} (h : 768 ≤ i) (hc : 0 ≤ c) (hi : 768 + 22 * c ≤ (i : Int)) : wX c L K i x := ⟨fun q => by omega, fun w hw => ⟨fun q => by omega, fun q => by omega, fun q => by omega⟩⟩
theorem wX_k {c : Int} {L K : Nat → Prop} {i u : Nat} {x : Int} (hu : K u) (hi : i = 768 + 22 * u) : wX c L K i x := ⟨fun q => by omega, fun w hw => ⟨fun q _ => by rw [show w = u by omega]; exact hu, fun q => by omega, fun q => by omega⟩⟩
theorem wX_r {c : Int} {L K : Nat → Prop} {i : Nat} {x : Int} (h : 768 ≤ i) (hi : (i - 768) % 22 = 0) (hx : x ≠ 0 ∧ x ≠ 1) : wX c L K i x := ⟨fun q => by omega, fun w hw => ⟨fun q z => by omega, fun q => by omega, fun q => by omega⟩⟩
abbrev shM (q : Nat → Nat) : gS := .inl (15, 78, gl (gI (-2147483648) 2147483647 :: gX (q 1) 2 :: gX (q 2) 3 :: gI 0 1 :: gX (q 4) 5 :: gX (q 5) 6 :: gX (q 6) 7 :: gX (q 7) 8 :: gX (q 8) 9 :: gI 0 24 :: gX (q 10) 11 :: gI 0 400 :: gI 0 400 :: gI 0 400 :: gI 0 400 :: gI (-2147483648) 2147483647 :: gI (-2147483648) 2147483647 :: gX (q 17) 18 :: gX (q 18) 19 :: gX (q 19) 20 :: gX (q 20) 21 :: gX (q 21) 22 :: gX (q 22) 23 :: gX (q 23) 24 :: gX (q 24) 25 :: gX (q 25) 26 :: gX (q 26) 27 :: gX (q 27) 28 :: gI 0 400 :: gX (q 29) 30 :: gX (q 30) 31 :: gX (q 31) 32 :: gX (q 32) 33 :: gX (q 33) 34 :: gX (q 34) 35 :: gX (q 35) 36 :: gX (q 36) 37 :: gX (q 37) 38 :: gX (q 38) 39 :: gX (q 39) 40 :: gX (q 40) 41 :: gX (q 41) 42 :: gI 0 60 :: gX (q 43) 44 :: gX (q 44) 45 :: gX (q 45) 46 :: gX (q 46) 47 :: gI 0 30 :: gI (-2147483648) 2147483647 :: gI (-2147483648) 2147483647 :: gX (q 50) 51 :: gX (q 51) 52 :: gI 0 1 :: gJ :: gJ :: gX (q 55) 56 :: gX (q 56) 57 :: gX (q 57) 58 :: gX (q 58) 59 :: gX (q 59) 60 :: gX (q 60) 61 :: gX (q 61) 62 :: gX (q 62) 63 :: gX (q 63) 64 :: gI 0 40 :: gX (q 65) 66 :: gX (q 66) 67 :: gX (q 67) 68 :: gX (q 68) 69 :: gX (q 69) 70 :: gX (q 70) 71 :: gX (q 71) 72 :: gX (q 72) 73 :: gX (q 73) 74 :: gI 0 7 :: gX (q 75) 76 :: gX (q 76) 77 :: gI (-2147483648) 2147483647 :: []))
def shl_m (q : Nat → Nat) : List gS := (shM q :: .inr (0, 0, ga gJ) :: .inr (0, 0, ga gJ) :: .inr (0, 0, ga gJ) :: .inr (0, 0, ga gJ) :: .inr (0, 96, ga (gI 0 20)) :: .inr (0, 96, ga (gI 0 95)) :: .inr (0, 96, ga (gI (-2147483648) 2147483647)) :: .inr (0, 2304, ga (gI (-2147483648) 2147483647)) :: .inr (0, 2304, ga (gI (-2147483648) 2147483647)) :: .inr (0, 0, ga gJ) :: .inr (3, 400, ga (gI (-2147483648) 2147483647)) :: .inr (0, 0, ga gJ) :: .inr (0, 0, ga gJ) :: .inr (0, 0, ga gJ) :: .inr (0, 0, ga gJ) :: .inr (0, 0, ga gJ) :: .inr (0, 0, ga gJ) :: .inr (0, 5, ga (gI (-2147483648) 2147483647)) :: .inr (0, 3, ga (gI 0 20)) :: .inr (0, 60, ga (gI (-2147483648) 2147483647)) :: .inr (0, 60, ga (gI (-2147483648) 2147483647)) :: .inr (0, 60, ga (gI (-2147483648) 2147483647)) :: .inr (0, 60, ga (gI (-2147483648) 2147483647)) :: .inr (0, 60, ga (gI (-2147483648) 2147483647)) :: .inr (0, 60, ga (gI 0 400)) :: .inr (0, 60, ga (gI 0 400)) :: .inr (0, 1200, ga (gI (-2147483648) 2147483647)) :: .inr (0, 1200, ga (gI (-2147483648) 2147483647)) :: .inr (0, 0, ga gJ) :: .inr (2, 400, ga gJ) :: .inr (2, 10, ga gJ) :: .inr (0, 60, ga (gI (-2147483648) 2147483647)) :: .inr (0, 60, ga (gI (-2147483648) 2147483647)) :: .inr (0, 60, ga (gI (-2147483648) 2147483647)) :: .inr (0, 60, ga (gI (-2147483648) 2147483647)) :: .inr (1, 60, ga (gI 0 1)) :: .inr (1, 60, ga (gI 0 1)) :: .inr (0, 60, ga (gI (-2147483648) 2147483647)) :: .inr (0, 60, ga (gI (-1) 29)) :: .inr (0, 60, ga (gI (-2147483648) 2147483647)) :: .inr (0, 60, ga (gI (-2147483648) 2147483647)) :: .inr (1, 60, ga (gI 0 1)) :: .inr (0, 0, ga gJ) :: .inr (0, 30, ga (gI (-2147483648) 2147483647)) :: .inr (0, 30, ga (gI (-2147483648) 2147483647)) :: .inr (0, 30, ga (gI (-2147483648) 2147483647)) :: .inr (0, 30, ga (gI (-1) 59)) :: .inr (0, 0, ga gJ) :: .inr (0, 0, ga gJ) :: .inr (0, 0, ga gJ) :: .inr (2, 60, ga gJ) :: .inr (1, 60, ga (gI 0 1)) :: .inr (0, 0, ga gJ) :: .inr (0, 0, ga gJ) :: .inr (0, 0, ga gJ) :: .inr (1, 60, ga (gI 0 1)) :: .inr (0, 40, ga (gI (-2147483648) 2147483647)) :: .inr (0, 40, ga (gI 0 9)) :: .inr (0, 40, ga (gI (-2147483648) 2147483647)) :: .inr (0, 40, ga (gI (-2147483648) 2147483647)) :: .inr (0, 40, ga (gI (-2147483648) 2147483647)) :: .inr (0, 40, ga (gI (-2147483648) 2147483647)) :: .inr (1, 40, ga (gI 0 1)) :: .inr (1, 40, ga (gI 0 1)) :: .inr (0, 0, ga gJ) :: .inr (0, 1001, ga (gI (-2147483648) 2147483647)) :: .inr (0, 1001, ga (gI (-2147483648) 2147483647)) :: .inr (0, 5, ga (gI (-2147483648) 2147483647)) :: .inr (0, 6, ga (gI (-2147483648) 2147483647)) :: .inr (0, 6, ga (gI 0 95)) :: .inr (0, 7, ga (gI (-2147483648) 2147483647)) :: .inr (0, 7, ga (gI 0 20)) :: .inr (0, 7, ga (gI (-2147483648) 2147483647)) :: .inr (0, 7, ga (gI (-2147483648) 2147483647)) :: .inr (0, 0, ga gJ) :: .inr (0, 7, ga (gI (-2147483648) 2147483647)) :: .inr (0, 7, ga (gI (-2147483648) 2147483647)) :: .inr (0, 0, ga gJ) :: [])
def SHm (q : Nat → Nat) (PW PI : Nat → Int → Prop) : Nat → gS := fun t => if t = 2 then .inr (0, 1749, gq PW) else if t = 3 then .inr (0, 1749, gq PI) else (shl_m q).getD t (.inr (0, 0, ga gJ))
def SKm : Nat → gS := SHm (fun _ => 0) (fun _ _ => True) (fun _ _ => True)
theorem shm_0 {q : Nat → Nat} {PW PI : Nat → Int → Prop} : SHm q PW PI 0 = shM q := rfl
theorem skm_0 : SKm 0 = shM (fun _ => 0) := rfl
theorem shm_2 {q : Nat → Nat} {PW PI : Nat → Int → Prop} : SHm q PW PI 2 = .inr (0, 1749, gq PW) := rfl
theorem skm_2 : SKm 2 = .inr (0, 1749, gq (fun _ _ => True)) := rfl
theorem shm_3 {q : Nat → Nat} {PW PI : Nat → Int → Prop} : SHm q PW PI 3 = .inr (0, 1749, gq PI) := rfl
theorem skm_3 : SKm 3 = .inr (0, 1749, gq (fun _ _ => True)) := rfl
theorem shm_5 {q : Nat → Nat} {PW PI : Nat → Int → Prop} : SHm q PW PI 5 = .inr (0, 96, ga (gI 0 20)) := rfl
theorem skm_5 : SKm 5 = .inr (0, 96, ga (gI 0 20)) := rfl
theorem shm_6 {q : Nat → Nat} {PW PI : Nat → Int → Prop} : SHm q PW PI 6 = .inr (0, 96, ga (gI 0 95)) := rfl
theorem skm_6 : SKm 6 = .inr (0, 96, ga (gI 0 95)) := rfl
theorem shm_7 {q : Nat → Nat} {PW PI : Nat → Int → Prop} : SHm q PW PI 7 = .inr (0, 96, ga (gI (-2147483648) 2147483647)) := rfl
theorem skm_7 : SKm 7 = .inr (0, 96, ga (gI (-2147483648) 2147483647)) := rfl
theorem shm_8 {q : Nat → Nat} {PW PI : Nat → Int → Prop} : SHm q PW PI 8 = .inr (0, 2304, ga (gI (-2147483648) 2147483647)) := rfl
theorem skm_8 : SKm 8 = .inr (0, 2304, ga (gI (-2147483648) 2147483647)) := rfl
theorem shm_9 {q : Nat → Nat} {PW PI : Nat → Int → Prop} : SHm q PW PI 9 = .inr (0, 2304, ga (gI (-2147483648) 2147483647)) := rfl
theorem skm_9 : SKm 9 = .inr (0, 2304, ga (gI (-2147483648) 2147483647)) := rfl
theorem shm_11 {q : Nat → Nat} {PW PI : Nat → Int → Prop} : SHm q PW PI 11 = .inr (3, 400, ga (gI (-2147483648) 2147483647)) := rfl
theorem skm_11 : SKm 11 = .inr (3, 400, ga (gI (-2147483648) 2147483647)) := rfl
theorem shm_18 {q : Nat → Nat} {PW PI : Nat → Int → Prop} : SHm q PW PI 18 = .inr (0, 5, ga (gI (-2147483648) 2147483647)) := rfl
theorem skm_18 : SKm 18 = .inr (0, 5, ga (gI (-2147483648) 2147483647)) := rfl
theorem shm_19 {q : Nat → Nat} {PW PI : Nat → Int → Prop} : SHm q PW PI 19 = .inr (0, 3, ga (gI 0 20)) := rfl
theorem skm_19 : SKm 19 = .inr (0, 3, ga (gI 0 20)) := rfl
theorem shm_20 {q : Nat → Nat} {PW PI : Nat → Int → Prop} : SHm q PW PI 20 = .inr (0, 60, ga (gI (-2147483648) 2147483647)) := rfl
theorem skm_20 : SKm 20 = .inr (0, 60, ga (gI (-2147483648) 2147483647)) := rfl
theorem shm_21 {q : Nat → Nat} {PW PI : Nat → Int → Prop} : SHm q PW PI 21 = .inr (0, 60, ga (gI (-2147483648) 2147483647)) := rfl
theorem skm_21 : SKm 21 = .inr (0, 60, ga (gI (-2147483648) 2147483647)) := rfl
theorem shm_22 {q : Nat → Nat} {PW PI : Nat → Int → Prop} : SHm q PW PI 22 = .inr (0, 60, ga (gI (-2147483648) 2147483647)) := rfl
theorem skm_22 : SKm 22 = .inr (0, 60, ga (gI (-2147483648) 2147483647)) := rfl
theorem shm_23 {q : Nat → Nat} {PW PI : Nat → Int → Prop} : SHm q PW PI 23 = .inr (0, 60, ga (gI (-2147483648) 2147483647)) := rfl
theorem skm_23 : SKm 23 = .inr (0, 60, ga (gI (-2147483648) 2147483647)) := rfl
theorem shm_24 {q : Nat → Nat} {PW PI : Nat → Int → Prop} : SHm q PW PI 24 = .inr (0, 60, ga (gI (-2147483648) 2147483647)) := rfl
theorem skm_24 : SKm 24 = .inr (0, 60, ga (gI (-2147483648) 2147483647)) := rfl
theorem shm_25 {q : Nat → Nat} {PW PI : Nat → Int → Prop} : SHm q PW PI 25 = .inr (0, 60, ga (gI 0 400)) := rfl
theorem skm_25 : SKm 25 = .inr (0, 60, ga (gI 0 400)) := rfl
theorem shm_26 {q : Nat → Nat} {PW PI : Nat → Int → Prop} : SHm q PW PI 26 = .inr (0, 60, ga (gI 0 400)) := rfl
theorem skm_26 : SKm 26 = .inr (0, 60, ga (gI 0 400)) := rfl
theorem shm_27 {q : Nat → Nat} {PW PI : Nat → Int → Prop} : SHm q PW PI 27 = .inr (0, 1200, ga (gI (-2147483648) 2147483647)) := rfl
theorem skm_27 : SKm 27 = .inr (0, 1200, ga (gI (-2147483648) 2147483647)) := rfl
theorem shm_28 {q : Nat → Nat} {PW PI : Nat → Int → Prop} : SHm q PW PI 28 = .inr (0, 1200, ga (gI (-2147483648) 2147483647)) := rfl
theorem skm_28 : SKm 28 = .inr (0, 1200, ga (gI (-2147483648) 2147483647)) := rfl
theorem shm_30 {q : Nat → Nat} {PW PI : Nat → Int → Prop} : SHm q PW PI 30 = .inr (2, 400, ga gJ) := rfl
theorem skm_30 : SKm 30 = .inr (2, 400, ga gJ) := rfl
theorem shm_31 {q : Nat → Nat} {PW PI : Nat → Int → Prop} : SHm q PW PI 31 = .inr (2, 10, ga gJ) := rfl
theorem skm_31 : SKm 31 = .inr (2, 10, ga gJ) := rfl
theorem shm_32 {q : Nat → Nat} {PW PI : Nat → Int → Prop} : SHm q PW PI 32 = .inr (0, 60, ga (gI (-2147483648) 2147483647)) := rfl
theorem skm_32 : SKm 32 = .inr (0, 60, ga (gI (-2147483648) 2147483647)) := rfl
theorem shm_33 {q : Nat → Nat} {PW PI : Nat → Int → Prop} : SHm q PW PI 33 = .inr (0, 60, ga (gI (-2147483648) 2147483647)) := rfl
theorem skm_33 : SKm 33 = .inr (0, 60, ga (gI (-2147483648) 2147483647)) := rfl
theorem shm_34 {q : Nat → Nat} {PW PI : Nat → Int → Prop} : SHm q PW PI 34 = .inr (0, 60, ga (gI (-2147483648) 2147483647)) := rfl
theorem skm_34 : SKm 34 = .inr (0, 60, ga (gI (-2147483648) 2147483647)) := rfl
theorem shm_35 {q : Nat → Nat} {PW PI : Nat → Int → Prop} : SHm q PW PI 35 = .inr (0, 60, ga (gI (-2147483648) 2147483647)) := rfl
theorem skm_35 : SKm 35 = .inr (0, 60, ga (gI (-2147483648) 2147483647)) := rfl
theorem shm_36 {q : Nat → Nat} {PW PI : Nat → Int → Prop} : SHm q PW PI 36 = .inr (1, 60, ga (gI 0 1)) := rfl
theorem skm_36 : SKm 36 = .inr (1, 60, ga (gI 0 1)) := rfl
theorem shm_37 {q : Nat → Nat} {PW PI : Nat → Int → Prop} : SHm q PW PI 37 = .inr (1, 60, ga (gI 0 1)) := rfl
theorem skm_37 : SKm 37 = .inr (1, 60, ga (gI 0 1)) := rfl
theorem shm_38 {q : Nat → Nat} {PW PI : Nat → Int → Prop} : SHm q PW PI 38 = .inr (0, 60, ga (gI (-2147483648) 2147483647)) := rfl
theorem skm_38 : SKm 38 = .inr (0, 60, ga (gI (-2147483648) 2147483647)) := rfl
theorem shm_39 {q : Nat → Nat} {PW PI : Nat → Int → Prop} : SHm q PW PI 39 = .inr (0, 60, ga (gI (-1) 29)) := rfl
theorem skm_39 : SKm 39 = .inr (0, 60, ga (gI (-1) 29)) := rfl
theorem shm_40 {q : Nat → Nat} {PW PI : Nat → Int → Prop} : SHm q PW PI 40 = .inr (0, 60, ga (gI (-2147483648) 2147483647)) := rfl
theorem skm_40 : SKm 40 = .inr (0, 60, ga (gI (-2147483648) 2147483647)) := rfl
theorem shm_41 {q : Nat → Nat} {PW PI : Nat → Int → Prop} : SHm q PW PI 41 = .inr (0, 60, ga (gI (-2147483648) 2147483647)) := rfl
theorem skm_41 : SKm 41 = .inr (0, 60, ga (gI (-2147483648) 2147483647)) := rfl
theorem shm_42 {q : Nat → Nat} {PW PI : Nat → Int → Prop} : SHm q PW PI 42 = .inr (1, 60, ga (gI 0 1)) := rfl
theorem skm_42 : SKm 42 = .inr (1, 60, ga (gI 0 1)) := rfl
theorem shm_44 {q : Nat → Nat} {PW PI : Nat → Int → Prop} : SHm q PW PI 44 = .inr (0, 30, ga (gI (-2147483648) 2147483647)) := rfl
theorem skm_44 : SKm 44 = .inr (0, 30, ga (gI (-2147483648) 2147483647)) := rfl
theorem shm_45 {q : Nat → Nat} {PW PI : Nat → Int → Prop} : SHm q PW PI 45 = .inr (0, 30, ga (gI (-2147483648) 2147483647)) := rfl
theorem skm_45 : SKm 45 = .inr (0, 30, ga (gI (-2147483648) 2147483647)) := rfl
theorem shm_46 {q : Nat → Nat} {PW PI : Nat → Int → Prop} : SHm q PW PI 46 = .inr (0, 30, ga (gI (-2147483648) 2147483647)) := rfl
theorem skm_46 : SKm 46 = .inr (0, 30, ga (gI (-2147483648) 2147483647)) := rfl
theorem shm_47 {q : Nat → Nat} {PW PI : Nat → Int → Prop} : SHm q PW PI 47 = .inr (0, 30, ga (gI (-1) 59)) := rfl
theorem skm_47 : SKm 47 = .inr (0, 30, ga (gI (-1) 59)) := rfl
theorem shm_51 {q : Nat → Nat} {PW PI : Nat → Int → Prop} : SHm q PW PI 51 = .inr (2, 60, ga gJ) := rfl
theorem skm_51 : SKm 51 = .inr (2, 60, ga gJ) := rfl
theorem shm_52 {q : Nat → Nat} {PW PI : Nat → Int → Prop} : SHm q PW PI 52 = .inr (1, 60, ga (gI 0 1)) := rfl
theorem skm_52 : SKm 52 = .inr (1, 60, ga (gI 0 1)) := rfl
theorem shm_56 {q : Nat → Nat} {PW PI : Nat → Int → Prop} : SHm q PW PI 56 = .inr (1, 60, ga (gI 0 1)) := rfl
theorem skm_56 : SKm 56 = .inr (1, 60, ga (gI 0 1)) := rfl
theorem shm_57 {q : Nat → Nat} {PW PI : Nat → Int → Prop} : SHm q PW PI 57 = .inr (0, 40, ga (gI (-2147483648) 2147483647)) := rfl
theorem skm_57 : SKm 57 = .inr (0, 40, ga (gI (-2147483648) 2147483647)) := rfl
theorem shm_58 {q : Nat → Nat} {PW PI : Nat → Int → Prop} : SHm q PW PI 58 = .inr (0, 40, ga (gI 0 9)) := rfl
theorem skm_58 : SKm 58 = .inr (0, 40, ga (gI 0 9)) := rfl
theorem shm_59 {q : Nat → Nat} {PW PI : Nat → Int → Prop} : SHm q PW PI 59 = .inr (0, 40, ga (gI (-2147483648) 2147483647)) := rfl
theorem skm_59 : SKm 59 = .inr (0, 40, ga (gI (-2147483648) 2147483647)) := rfl
theorem shm_60 {q : Nat → Nat} {PW PI : Nat → Int → Prop} : SHm q PW PI 60 = .inr (0, 40, ga (gI (-2147483648) 2147483647)) := rfl
theorem skm_60 : SKm 60 = .inr (0, 40, ga (gI (-2147483648) 2147483647)) := rfl
theorem shm_61 {q : Nat → Nat} {PW PI : Nat → Int → Prop} : SHm q PW PI 61 = .inr (0, 40, ga (gI (-2147483648) 2147483647)) := rfl
theorem skm_61 : SKm 61 = .inr (0, 40, ga (gI (-2147483648) 2147483647)) := rfl
theorem shm_62 {q : Nat → Nat} {PW PI : Nat → Int → Prop} : SHm q PW PI 62 = .inr (0, 40, ga (gI (-2147483648) 2147483647)) := rfl
theorem skm_62 : SKm 62 = .inr (0, 40, ga (gI (-2147483648) 2147483647)) := rfl
theorem shm_63 {q : Nat → Nat} {PW PI : Nat → Int → Prop} : SHm q PW PI 63 = .inr (1, 40, ga (gI 0 1)) := rfl
theorem skm_63 : SKm 63 = .inr (1, 40, ga (gI 0 1)) := rfl
theorem shm_64 {q : Nat → Nat} {PW PI : Nat → Int → Prop} : SHm q PW PI 64 = .inr (1, 40, ga (gI 0 1)) := rfl
theorem skm_64 : SKm 64 = .inr (1, 40, ga (gI 0 1)) := rfl
theorem shm_66 {q : Nat → Nat} {PW PI : Nat → Int → Prop} : SHm q PW PI 66 = .inr (0, 1001, ga (gI (-2147483648) 2147483647)) := rfl
theorem skm_66 : SKm 66 = .inr (0, 1001, ga (gI (-2147483648) 2147483647)) := rfl
theorem shm_67 {q : Nat → Nat} {PW PI : Nat → Int → Prop} : SHm q PW PI 67 = .inr (0, 1001, ga (gI (-2147483648) 2147483647)) := rfl
theorem skm_67 : SKm 67 = .inr (0, 1001, ga (gI (-2147483648) 2147483647)) := rfl
theorem shm_68 {q : Nat → Nat} {PW PI : Nat → Int → Prop} : SHm q PW PI 68 = .inr (0, 5, ga (gI (-2147483648) 2147483647)) := rfl
theorem skm_68 : SKm 68 = .inr (0, 5, ga (gI (-2147483648) 2147483647)) := rfl
theorem shm_69 {q : Nat → Nat} {PW PI : Nat → Int → Prop} : SHm q PW PI 69 = .inr (0, 6, ga (gI (-2147483648) 2147483647)) := rfl
theorem skm_69 : SKm 69 = .inr (0, 6, ga (gI (-2147483648) 2147483647)) := rfl
theorem shm_70 {q : Nat → Nat} {PW PI : Nat → Int → Prop} : SHm q PW PI 70 = .inr (0, 6, ga (gI 0 95)) := rfl
theorem skm_70 : SKm 70 = .inr (0, 6, ga (gI 0 95)) := rfl
theorem shm_71 {q : Nat → Nat} {PW PI : Nat → Int → Prop} : SHm q PW PI 71 = .inr (0, 7, ga (gI (-2147483648) 2147483647)) := rfl
theorem skm_71 : SKm 71 = .inr (0, 7, ga (gI (-2147483648) 2147483647)) := rfl
theorem shm_72 {q : Nat → Nat} {PW PI : Nat → Int → Prop} : SHm q PW PI 72 = .inr (0, 7, ga (gI 0 20)) := rfl
theorem skm_72 : SKm 72 = .inr (0, 7, ga (gI 0 20)) := rfl
theorem shm_73 {q : Nat → Nat} {PW PI : Nat → Int → Prop} : SHm q PW PI 73 = .inr (0, 7, ga (gI (-2147483648) 2147483647)) := rfl
theorem skm_73 : SKm 73 = .inr (0, 7, ga (gI (-2147483648) 2147483647)) := rfl
theorem shm_74 {q : Nat → Nat} {PW PI : Nat → Int → Prop} : SHm q PW PI 74 = .inr (0, 7, ga (gI (-2147483648) 2147483647)) := rfl
theorem skm_74 : SKm 74 = .inr (0, 7, ga (gI (-2147483648) 2147483647)) := rfl
theorem shm_76 {q : Nat → Nat} {PW PI : Nat → Int → Prop} : SHm q PW PI 76 = .inr (0, 7, ga (gI (-2147483648) 2147483647)) := rfl
theorem skm_76 : SKm 76 = .inr (0, 7, ga (gI (-2147483648) 2147483647)) := rfl
theorem shm_77 {q : Nat → Nat} {PW PI : Nat → Int → Prop} : SHm q PW PI 77 = .inr (0, 7, ga (gI (-2147483648) 2147483647)) := rfl
theorem skm_77 : SKm 77 = .inr (0, 7, ga (gI (-2147483648) 2147483647)) := rfl
theorem w_hgt {n h b m c : Int} {i : Nat} (hi : 96 ≤ i ∧ i < 192) : wLo n h b m c i = -900 - b ∧ wHi n h b m c i = 300 := by
  unfold wLo wHi
  exact ⟨by rw [if_pos hi], by rw [if_pos hi]⟩
theorem w_dit {n h b m c : Int} {i : Nat} (hi : 288 ≤ i ∧ i < 384) : wLo n h b m c i = 0 ∧ wHi n h b m c i = 20 := by
  unfold wLo wHi
  exact ⟨by rw [if_neg (by omega), if_pos hi], by rw [if_neg (by omega), if_pos hi]⟩
theorem w_wat {n h b m c : Int} {i : Nat} (hi : 384 ≤ i ∧ i < 480) : wLo n h b m c i = 0 ∧ wHi n h b m c i = n := by
  unfold wLo wHi
  exact ⟨by rw [if_neg (by omega), if_neg (by omega), if_pos hi], by rw [if_neg (by omega), if_neg (by omega), if_pos hi]⟩
theorem w_wsq {n h b m c : Int} {i : Nat} (hi : 768 ≤ i ∧ i < 1428 ∧ ((i - 768) % 22 = 1 ∨ (i - 768) % 22 = 2)) : wLo n h b m c i = 0 ∧ wHi n h b m c i = 95 := by
  unfold wLo wHi
  exact ⟨by rw [if_neg (by omega), if_neg (by omega), if_neg (by omega), if_pos hi], by rw [if_neg (by omega), if_neg (by omega), if_neg (by omega), if_pos hi]⟩
theorem w_wld {n h b m c : Int} {i : Nat} (hi : 768 ≤ i ∧ i < 1428 ∧ (i - 768) % 22 = 4) : wLo n h b m c i = 0 ∧ wHi n h b m c i = 6 := by
  unfold wLo wHi
  exact ⟨by rw [if_neg (by omega), if_neg (by omega), if_neg (by omega), if_neg (by omega), if_pos hi], by rw [if_neg (by omega), if_neg (by omega), if_neg (by omega), if_neg (by omega), if_pos hi]⟩
theorem w_wcl {n h b m c : Int} {i : Nat} (hi : 768 ≤ i ∧ i < 1428 ∧ 11 ≤ (i - 768) % 22 ∧ (i - 768) % 22 ≤ 16) : wLo n h b m c i = 0 ∧ wHi n h b m c i = 9 := by
  unfold wLo wHi
  exact ⟨by rw [if_neg (by omega), if_neg (by omega), if_neg (by omega), if_neg (by omega), if_neg (by omega), if_pos hi], by rw [if_neg (by omega), if_neg (by omega), if_neg (by omega), if_neg (by omega), if_neg (by omega), if_pos hi]⟩
theorem w_wsz {n h b m c : Int} {i : Nat} (hi : 768 ≤ i ∧ i < 1428 ∧ (i - 768) % 22 = 17) : wLo n h b m c i = 0 ∧ wHi n h b m c i = 60 := by
  unfold wLo wHi
  exact ⟨by rw [if_neg (by omega), if_neg (by omega), if_neg (by omega), if_neg (by omega), if_neg (by omega), if_neg (by omega), if_pos hi], by rw [if_neg (by omega), if_neg (by omega), if_neg (by omega), if_neg (by omega), if_neg (by omega), if_neg (by omega), if_pos hi]⟩
theorem w_wct {n h b m c : Int} {i : Nat} (hi : i = 1428) : wLo n h b m c i = m ∧ wHi n h b m c i = c := by
  unfold wLo wHi
  exact ⟨by rw [if_neg (by omega), if_neg (by omega), if_neg (by omega), if_neg (by omega), if_neg (by omega), if_neg (by omega), if_neg (by omega), if_pos hi], by rw [if_neg (by omega), if_neg (by omega), if_neg (by omega), if_neg (by omega), if_neg (by omega), if_neg (by omega), if_neg (by omega), if_pos hi]⟩
theorem w_hou {n h b m c : Int} {i : Nat} (hi : i = 1429) : wLo n h b m c i = h ∧ wHi n h b m c i = h := by
  unfold wLo wHi
  exact ⟨by rw [if_neg (by omega), if_neg (by omega), if_neg (by omega), if_neg (by omega), if_neg (by omega), if_neg (by omega), if_neg (by omega), if_neg (by omega), if_pos hi], by rw [if_neg (by omega), if_neg (by omega), if_neg (by omega), if_neg (by omega), if_neg (by omega), if_neg (by omega), if_neg (by omega), if_neg (by omega), if_pos hi]⟩
theorem w_tid {n h b m c : Int} {i : Nat} (hi : 1430 ≤ i ∧ i < 1442) : wLo n h b m c i = -400 ∧ wHi n h b m c i = 400 := by
  unfold wLo wHi
  exact ⟨by rw [if_neg (by omega), if_neg (by omega), if_neg (by omega), if_neg (by omega), if_neg (by omega), if_neg (by omega), if_neg (by omega), if_neg (by omega), if_neg (by omega), if_pos hi], by rw [if_neg (by omega), if_neg (by omega), if_neg (by omega), if_neg (by omega), if_neg (by omega), if_neg (by omega), if_neg (by omega), if_neg (by omega), if_neg (by omega), if_pos hi]⟩
theorem w_stc {n h b m c : Int} {i : Nat} (hi : i = 1442) : wLo n h b m c i = 0 ∧ wHi n h b m c i = 20 := by
  unfold wLo wHi
  exact ⟨by rw [if_neg (by omega), if_neg (by omega), if_neg (by omega), if_neg (by omega), if_neg (by omega), if_neg (by omega), if_neg (by omega), if_neg (by omega), if_neg (by omega), if_neg (by omega), if_pos hi], by rw [if_neg (by omega), if_neg (by omega), if_neg (by omega), if_neg (by omega), if_neg (by omega), if_neg (by omega), if_neg (by omega), if_neg (by omega), if_neg (by omega), if_neg (by omega), if_pos hi]⟩
theorem w_stm {n h b m c : Int} {i : Nat} (hi : 1443 ≤ i ∧ i < 1503 ∧ (i - 1443) % 3 = 2) : wLo n h b m c i = 0 ∧ wHi n h b m c i = 500 := by
  unfold wLo wHi
  exact ⟨by rw [if_neg (by omega), if_neg (by omega), if_neg (by omega), if_neg (by omega), if_neg (by omega), if_neg (by omega), if_neg (by omega), if_neg (by omega), if_neg (by omega), if_neg (by omega), if_neg (by omega), if_pos hi], by rw [if_neg (by omega), if_neg (by omega), if_neg (by omega), if_neg (by omega), if_neg (by omega), if_neg (by omega), if_neg (by omega), if_neg (by omega), if_neg (by omega), if_neg (by omega), if_neg (by omega), if_pos hi]⟩
theorem w_wic {n h b m c : Int} {i : Nat} (hi : i = 1503) : wLo n h b m c i = 0 ∧ wHi n h b m c i = 60 := by
  unfold wLo wHi
  exact ⟨by rw [if_neg (by omega), if_neg (by omega), if_neg (by omega), if_neg (by omega), if_neg (by omega), if_neg (by omega), if_neg (by omega), if_neg (by omega), if_neg (by omega), if_neg (by omega), if_neg (by omega), if_neg (by omega), if_pos hi], by rw [if_neg (by omega), if_neg (by omega), if_neg (by omega), if_neg (by omega), if_neg (by omega), if_neg (by omega), if_neg (by omega), if_neg (by omega), if_neg (by omega), if_neg (by omega), if_neg (by omega), if_neg (by omega), if_pos hi]⟩
theorem w_wid {n h b m c : Int} {i : Nat} (hi : 1504 ≤ i ∧ i < 1624 ∧ (i - 1504) % 2 = 1) : wLo n h b m c i = -1 ∧ wHi n h b m c i = 9 := by
  unfold wLo wHi
  exact ⟨by rw [if_neg (by omega), if_neg (by omega), if_neg (by omega), if_neg (by omega), if_neg (by omega), if_neg (by omega), if_neg (by omega), if_neg (by omega), if_neg (by omega), if_neg (by omega), if_neg (by omega), if_neg (by omega), if_neg (by omega), if_pos hi], by rw [if_neg (by omega), if_neg (by omega), if_neg (by omega), if_neg (by omega), if_neg (by omega), if_neg (by omega), if_neg (by omega), if_neg (by omega), if_neg (by omega), if_neg (by omega), if_neg (by omega), if_neg (by omega), if_neg (by omega), if_pos hi]⟩
theorem w_rac {n h b m c : Int} {i : Nat} (hi : i = 1624) : wLo n h b m c i = 0 ∧ wHi n h b m c i = 60 := by
  unfold wLo wHi
  exact ⟨by rw [if_neg (by omega), if_neg (by omega), if_neg (by omega), if_neg (by omega), if_neg (by omega), if_neg (by omega), if_neg (by omega), if_neg (by omega), if_neg (by omega), if_neg (by omega), if_neg (by omega), if_neg (by omega), if_neg (by omega), if_neg (by omega), if_pos hi], by rw [if_neg (by omega), if_neg (by omega), if_neg (by omega), if_neg (by omega), if_neg (by omega), if_neg (by omega), if_neg (by omega), if_neg (by omega), if_neg (by omega), if_neg (by omega), if_neg (by omega), if_neg (by omega), if_neg (by omega), if_neg (by omega), if_pos hi]⟩
theorem w_rai {n h b m c : Int} {i : Nat} (hi : 1625 ≤ i ∧ i < 1745 ∧ (i - 1625) % 2 = 1) : wLo n h b m c i = 0 ∧ wHi n h b m c i = 20 := by
  unfold wLo wHi
  exact ⟨by rw [if_neg (by omega), if_neg (by omega), if_neg (by omega), if_neg (by omega), if_neg (by omega), if_neg (by omega), if_neg (by omega), if_neg (by omega), if_neg (by omega), if_neg (by omega), if_neg (by omega), if_neg (by omega), if_neg (by omega), if_neg (by omega), if_neg (by omega), if_pos hi], by rw [if_neg (by omega), if_neg (by omega), if_neg (by omega), if_neg (by omega), if_neg (by omega), if_neg (by omega), if_neg (by omega), if_neg (by omega), if_neg (by omega), if_neg (by omega), if_neg (by omega), if_neg (by omega), if_neg (by omega), if_neg (by omega), if_neg (by omega), if_pos hi]⟩
theorem w_fre {n h b m c : Int} {i : Nat} (hi : ¬ (96 ≤ i ∧ i < 192) ∧ ¬ (288 ≤ i ∧ i < 384) ∧ ¬ (384 ≤ i ∧ i < 480) ∧ ¬ (768 ≤ i ∧ i < 1428 ∧ ((i - 768) % 22 = 1 ∨ (i - 768) % 22 = 2)) ∧ ¬ (768 ≤ i ∧ i < 1428 ∧ (i - 768) % 22 = 4) ∧ ¬ (768 ≤ i ∧ i < 1428 ∧ 11 ≤ (i - 768) % 22 ∧ (i - 768) % 22 ≤ 16) ∧ ¬ (768 ≤ i ∧ i < 1428 ∧ (i - 768) % 22 = 17) ∧ ¬ (i = 1428) ∧ ¬ (i = 1429) ∧ ¬ (1430 ≤ i ∧ i < 1442) ∧ ¬ (i = 1442) ∧ ¬ (1443 ≤ i ∧ i < 1503 ∧ (i - 1443) % 3 = 2) ∧ ¬ (i = 1503) ∧ ¬ (1504 ≤ i ∧ i < 1624 ∧ (i - 1504) % 2 = 1) ∧ ¬ (i = 1624) ∧ ¬ (1625 ≤ i ∧ i < 1745 ∧ (i - 1625) % 2 = 1)) : wLo n h b m c i = -2147483648 ∧ wHi n h b m c i = 2147483647 := by
  unfold wLo wHi
  exact ⟨by rw [if_neg (by omega), if_neg (by omega), if_neg (by omega), if_neg (by omega), if_neg (by omega), if_neg (by omega), if_neg (by omega), if_neg (by omega), if_neg (by omega), if_neg (by omega), if_neg (by omega), if_neg (by omega), if_neg (by omega), if_neg (by omega), if_neg (by omega), if_neg (by omega)], by rw [if_neg (by omega), if_neg (by omega), if_neg (by omega), if_neg (by omega), if_neg (by omega), if_neg (by omega), if_neg (by omega), if_neg (by omega), if_neg (by omega), if_neg (by omega), if_neg (by omega), if_neg (by omega), if_neg (by omega), if_neg (by omega), if_neg (by omega), if_neg (by omega)]⟩
theorem SHm_mono {D : va_G} {kA : Nat → ClassId} {q : Nat → Nat} {PW PI PW1 PI1 : Nat → Int → Prop} {G : gT} {H : Heap} (h : gH D kA (SHm q PW PI) G H) (h1 : ∀ i, i < 1749 → ∀ x, PW i x → PW1 i x) (h2 : ∀ i, i < 1749 → ∀ x, PI i x → PI1 i x) : gH D kA (SHm q PW1 PI1) G H := by
  intro a t ha
  have hc := h a t ha
  by_cases e2 : t = 2
  · subst e2
    obtain ⟨V, k1, k2⟩ := hc
    refine ⟨V, k1, fun k hk => ?_⟩
    obtain ⟨x, e, j1⟩ := k2 k hk
    exact ⟨x, e, h1 k hk _ j1⟩
  · by_cases e3 : t = 3
    · subst e3
      obtain ⟨V, k1, k2⟩ := hc
      refine ⟨V, k1, fun k hk => ?_⟩
      obtain ⟨x, e, j1⟩ := k2 k hk
      exact ⟨x, e, h2 k hk _ j1⟩
    · have e : ∀ p1 p2 : Nat → Int → Prop, SHm q p1 p2 t = (shl_m q).getD t (.inr (0, 0, ga gJ)) := fun _ _ => by unfold SHm; rw [if_neg e2, if_neg e3]
      rw [e] at hc ⊢
      exact hc
theorem w_mono {n n1 h b b1 m c : Int} (hn : n ≤ n1) (hb : b ≤ b1) : ∀ i, i < 1749 → wLo n1 h b1 m c i ≤ wLo n h b m c i ∧ wHi n h b m c i ≤ wHi n1 h b1 m c i := by
  intro i _
  by_cases k0 : 96 ≤ i ∧ i < 192
  · have e1 := w_hgt (n := n) (h := h) (b := b) (m := m) (c := c) k0
    have e2 := w_hgt (n := n1) (h := h) (b := b1) (m := m) (c := c) k0
    rw [e1.1, e1.2, e2.1, e2.2]
    constructor <;> omega
  by_cases k1 : 288 ≤ i ∧ i < 384
  · have e1 := w_dit (n := n) (h := h) (b := b) (m := m) (c := c) k1
    have e2 := w_dit (n := n1) (h := h) (b := b1) (m := m) (c := c) k1
    rw [e1.1, e1.2, e2.1, e2.2]
    constructor <;> omega
  by_cases k2 : 384 ≤ i ∧ i < 480
  · have e1 := w_wat (n := n) (h := h) (b := b) (m := m) (c := c) k2
    have e2 := w_wat (n := n1) (h := h) (b := b1) (m := m) (c := c) k2
    rw [e1.1, e1.2, e2.1, e2.2]
    constructor <;> omega
  by_cases k3 : 768 ≤ i ∧ i < 1428 ∧ ((i - 768) % 22 = 1 ∨ (i - 768) % 22 = 2)
  · have e1 := w_wsq (n := n) (h := h) (b := b) (m := m) (c := c) k3
    have e2 := w_wsq (n := n1) (h := h) (b := b1) (m := m) (c := c) k3
    rw [e1.1, e1.2, e2.1, e2.2]
    constructor <;> omega
  by_cases k4 : 768 ≤ i ∧ i < 1428 ∧ (i - 768) % 22 = 4
  · have e1 := w_wld (n := n) (h := h) (b := b) (m := m) (c := c) k4
    have e2 := w_wld (n := n1) (h := h) (b := b1) (m := m) (c := c) k4
    rw [e1.1, e1.2, e2.1, e2.2]
    constructor <;> omega
  by_cases k5 : 768 ≤ i ∧ i < 1428 ∧ 11 ≤ (i - 768) % 22 ∧ (i - 768) % 22 ≤ 16
  · have e1 := w_wcl (n := n) (h := h) (b := b) (m := m) (c := c) k5
    have e2 := w_wcl (n := n1) (h := h) (b := b1) (m := m) (c := c) k5
    rw [e1.1, e1.2, e2.1, e2.2]
    constructor <;> omega
  by_cases k6 : 768 ≤ i ∧ i < 1428 ∧ (i - 768) % 22 = 17
  · have e1 := w_wsz (n := n) (h := h) (b := b) (m := m) (c := c) k6
    have e2 := w_wsz (n := n1) (h := h) (b := b1) (m := m) (c := c) k6
    rw [e1.1, e1.2, e2.1, e2.2]
    constructor <;> omega
  by_cases k7 : i = 1428
  · have e1 := w_wct (n := n) (h := h) (b := b) (m := m) (c := c) k7
    have e2 := w_wct (n := n1) (h := h) (b := b1) (m := m) (c := c) k7
    rw [e1.1, e1.2, e2.1, e2.2]
    constructor <;> omega
  by_cases k8 : i = 1429
  · have e1 := w_hou (n := n) (h := h) (b := b) (m := m) (c := c) k8
    have e2 := w_hou (n := n1) (h := h) (b := b1) (m := m) (c := c) k8
    rw [e1.1, e1.2, e2.1, e2.2]
    constructor <;> omega
  by_cases k9 : 1430 ≤ i ∧ i < 1442
  · have e1 := w_tid (n := n) (h := h) (b := b) (m := m) (c := c) k9
    have e2 := w_tid (n := n1) (h := h) (b := b1) (m := m) (c := c) k9
    rw [e1.1, e1.2, e2.1, e2.2]
    constructor <;> omega
  by_cases k10 : i = 1442
  · have e1 := w_stc (n := n) (h := h) (b := b) (m := m) (c := c) k10
    have e2 := w_stc (n := n1) (h := h) (b := b1) (m := m) (c := c) k10
    rw [e1.1, e1.2, e2.1, e2.2]
    constructor <;> omega
  by_cases k11 : 1443 ≤ i ∧ i < 1503 ∧ (i - 1443) % 3 = 2
  · have e1 := w_stm (n := n) (h := h) (b := b) (m := m) (c := c) k11
    have e2 := w_stm (n := n1) (h := h) (b := b1) (m := m) (c := c) k11
    rw [e1.1, e1.2, e2.1, e2.2]
    constructor <;> omega
  by_cases k12 : i = 1503
  · have e1 := w_wic (n := n) (h := h) (b := b) (m := m) (c := c) k12
    have e2 := w_wic (n := n1) (h := h) (b := b1) (m := m) (c := c) k12
    rw [e1.1, e1.2, e2.1, e2.2]
    constructor <;> omega
  by_cases k13 : 1504 ≤ i ∧ i < 1624 ∧ (i - 1504) % 2 = 1
  · have e1 := w_wid (n := n) (h := h) (b := b) (m := m) (c := c) k13
    have e2 := w_wid (n := n1) (h := h) (b := b1) (m := m) (c := c) k13
    rw [e1.1, e1.2, e2.1, e2.2]
    constructor <;> omega
  by_cases k14 : i = 1624
  · have e1 := w_rac (n := n) (h := h) (b := b) (m := m) (c := c) k14
    have e2 := w_rac (n := n1) (h := h) (b := b1) (m := m) (c := c) k14
    rw [e1.1, e1.2, e2.1, e2.2]
    constructor <;> omega
  by_cases k15 : 1625 ≤ i ∧ i < 1745 ∧ (i - 1625) % 2 = 1
  · have e1 := w_rai (n := n) (h := h) (b := b) (m := m) (c := c) k15
    have e2 := w_rai (n := n1) (h := h) (b := b1) (m := m) (c := c) k15
    rw [e1.1, e1.2, e2.1, e2.2]
    constructor <;> omega
  have e1 := w_fre (n := n) (h := h) (b := b) (m := m) (c := c) ⟨k0, k1, k2, k3, k4, k5, k6, k7, k8, k9, k10, k11, k12, k13, k14, k15⟩
  have e2 := w_fre (n := n1) (h := h) (b := b1) (m := m) (c := c) ⟨k0, k1, k2, k3, k4, k5, k6, k7, k8, k9, k10, k11, k12, k13, k14, k15⟩
  rw [e1.1, e1.2, e2.1, e2.2]
  constructor <;> omega
theorem wP_mono {n n1 h b b1 m c : Int} {L K : Nat → Prop} (hn : n ≤ n1) (hb : b ≤ b1) : ∀ i, i < 1749 → ∀ x, wP n h b m c L K i x → wP n1 h b1 m c L K i x := fun i hi x ⟨h1, h2, h3⟩ => ⟨Int.le_trans (w_mono hn hb i hi).1 h1, Int.le_trans h2 (w_mono hn hb i hi).2, h3⟩
theorem gp_at {n h b m c : Int} {L K : Nat → Prop} {G : gT} {i : Nat} {v : Value} {lo hi : Int} (hv : gq (wP n h b m c L K) G i v) (e : wLo n h b m c i = lo ∧ wHi n h b m c i = hi) : gI lo hi G v := by
  obtain ⟨x, rfl, h1, h2, -⟩ := hv
  exact ⟨x, rfl, by rw [← e.1]; exact h1, by rw [← e.2]; exact h2⟩
theorem gp_any {P : Nat → Int → Prop} {G : gT} {i : Nat} {v : Value} (h : gq P G i v) : gI (-2147483648) 2147483647 G v := by
  obtain ⟨x, rfl, -⟩ := h
  exact gi_all x
theorem gp_of {n h b m c : Int} {L K : Nat → Prop} {G : gT} {i : Nat} {x : Int32} {lo hi : Int} (hv : gI lo hi G (.int x)) (e : wLo n h b m c i = lo ∧ wHi n h b m c i = hi) (hx : wX c L K i x.toInt) : gq (wP n h b m c L K) G i (.int x) := by
  obtain ⟨y, e1, h1, h2⟩ := hv
  cases e1
  exact ⟨x, rfl, by rw [e.1]; exact h1, by rw [e.2]; exact h2, hx⟩
theorem el_arr {H : Heap} {a i n : Nat} {cA : ClassId} {V : Nat → Value} (h : H[a]? = some (arrV cA n V)) (hi : i < n) : el H a i = some (V i) := by
  unfold el
  rw [h]
  exact arrV_read _ _ hi
theorem gH_at {D : va_G} {kA : Nat → ClassId} {Sg : Nat → gS} {G : gT} {H : Heap} {a t j n i : Nat} {E : gE} {v : Value} (hT : gH D kA Sg G H) (ha : G a = some t) (hs : Sg t = .inr (j, n, E)) (hi : i < n) (hm : el H a i = some v) : E G i v := by
  have h := hT a t ha
  rw [hs] at h
  obtain ⟨V, k1, k2⟩ := h
  have e := el_arr k1 hi
  rw [hm] at e
  rw [Option.some.inj e]
  exact k2 i hi
theorem wq_l {n h b m c : Int} {L K : Nat → Prop} {D : va_G} {kA : Nat → ClassId} {q : Nat → Nat} {PI : Nat → Int → Prop} {G : gT} {H : Heap} {i : Nat} {x : Int32} {a : Nat} (hT : gH D kA (SHm q (wP n h b m c L K) PI) G H) (ha : G a = some 2) (hl : i < 1749) (hm : el H a i = some (.int x)) : wP n h b m c L K i x.toInt := by
  obtain ⟨y, e, hp⟩ := gH_at hT ha shm_2 hl hm
  cases e
  exact hp
theorem w_wk0 {n h b m c : Int} {L K : Nat → Prop} {i : Nat} {G : gT} (hi : 768 ≤ i ∧ i < 1428) (hx : wX c L K i (0 : Int32).toInt) : gq (wP n h b m c L K) G i (.int 0) := by
  by_cases k3 : 768 ≤ i ∧ i < 1428 ∧ ((i - 768) % 22 = 1 ∨ (i - 768) % 22 = 2)
  · exact gp_of (gi_of (show (0 : Int32).toInt = 0 from by decide) (by decide) (by decide)) (w_wsq k3) hx
  by_cases k4 : 768 ≤ i ∧ i < 1428 ∧ (i - 768) % 22 = 4
  · exact gp_of (gi_of (show (0 : Int32).toInt = 0 from by decide) (by decide) (by decide)) (w_wld k4) hx
  by_cases k5 : 768 ≤ i ∧ i < 1428 ∧ 11 ≤ (i - 768) % 22 ∧ (i - 768) % 22 ≤ 16
  · exact gp_of (gi_of (show (0 : Int32).toInt = 0 from by decide) (by decide) (by decide)) (w_wcl k5) hx
  by_cases k6 : 768 ≤ i ∧ i < 1428 ∧ (i - 768) % 22 = 17
  · exact gp_of (gi_of (show (0 : Int32).toInt = 0 from by decide) (by decide) (by decide)) (w_wsz k6) hx
  exact gp_of (gi_all _) (w_fre (by omega)) hx
theorem tn_of {i : Int32} {a : Int} (h : i.toInt = a) (h0 : 0 ≤ a) : (i.toNatClampNeg : Int) = a := by rw [← h]; exact Int.toNat_of_nonneg (by rw [h]; exact h0)
theorem mx_f {x y z : Int32} {a b : Int} (e : z = if x < y then y else x) (hx : x.toInt = a) (hy : y.toInt = b) : a ≤ z.toInt ∧ b ≤ z.toInt ∧ (z.toInt = a ∨ z.toInt = b) := by
  have := ti_max e hx hy
  omega
theorem mn_f {x y z : Int32} {a b : Int} (e : z = if y < x then y else x) (hx : x.toInt = a) (hy : y.toInt = b) : z.toInt ≤ a ∧ z.toInt ≤ b ∧ (z.toInt = a ∨ z.toInt = b) := by
  have := ti_min e hx hy
  omega
theorem gx_of {D : va_G} {kA : Nat → ClassId} {Sg : Nat → gS} {G : gT} {H : Heap} {a t ci N k b u : Nat} {ks : List (gT → Value → Prop)} (hT : gH D kA Sg G H) (ha : G a = some t) (hs : Sg t = .inl (ci, N, gl ks)) (hk : k < N) (e : ks[k]? = some (gX b u)) : G b = some u := by
  have h := hT a t ha
  rw [hs] at h
  obtain ⟨V, -, hE⟩ := h
  exact (hE k hk _ e).2
