noncomputable def dk_n (L : List UInt8) : Nat → List UInt8 := List.rec (motive := fun _ => Nat → List UInt8) (fun _ => []) (fun b r ih n => Nat.rec (motive := fun _ => List UInt8) (b :: r) (fun k _ => ih k) n) L
theorem dk_n_eq : ∀ (L : List UInt8) (n : Nat), dk_n L n = L.drop n
  | [], n => by cases n <;> rfl
  | _ :: _, 0 => rfl
  | _ :: r, n + 1 => dk_n_eq r n
noncomputable def dk_q (L : List UInt8) (n : Nat) : List UInt8 := dk_n (dk_n (dk_n (dk_n (dk_n L (n - n / 5 * 4)) (n / 5)) (n / 5)) (n / 5)) (n / 5)
theorem dk_q_eq (L : List UInt8) (n : Nat) : dk_q L n = L.drop n := by
  unfold dk_q
  simp only [dk_n_eq, List.drop_drop]
  congr 1
  omega
noncomputable def dk_0 (c : ByteArray) (pc b : Nat) : Bool := match dk_q c.data.toList pc with
  | x :: _ => Nat.beq x.toNat b
  | _ => false
noncomputable def dk_1 (c : ByteArray) (pc b n : Nat) : Bool := match dk_q c.data.toList pc with
  | x :: y :: _ => (Nat.beq x.toNat b).and (Nat.beq y.toNat n)
  | _ => false
noncomputable def dk_2 (c : ByteArray) (pc b n : Nat) : Bool := match dk_q c.data.toList pc with
  | x :: y :: z :: _ => (Nat.beq x.toNat b).and (Nat.beq (y.toNat * 256 + z.toNat) n)
  | _ => false
noncomputable def dk_s (c : ByteArray) (pc b : Nat) (n : Int) : Bool := match dk_q c.data.toList pc with
  | x :: y :: _ => (Nat.beq x.toNat b).and (decide (Reader.signed 8 y.toNat = n))
  | _ => false
noncomputable def dk_t (c : ByteArray) (pc b : Nat) (n : Int) : Bool := match dk_q c.data.toList pc with
  | x :: y :: z :: _ => (Nat.beq x.toNat b).and (decide (Reader.signed 16 (y.toNat * 256 + z.toNat) = n))
  | _ => false
noncomputable def dk_i (c : ByteArray) (pc n : Nat) (k : Int) : Bool := match dk_q c.data.toList pc with
  | x :: y :: z :: _ => ((Nat.beq x.toNat 132).and (Nat.beq y.toNat n)).and (decide (Reader.signed 8 z.toNat = k))
  | _ => false
theorem dk_bind {α β : Type} {x : Decoder α} {g : α → Decoder β} {c : ByteArray} {p p1 : Nat} {a : α} (h : x c p = .ok (a, p1)) : (x >>= g) c p = g a c p1 := by
  change Except.bind (x c p) _ = _
  rw [h]
  rfl
theorem dk_ok {c : ByteArray} {pc n : Nat} {i : Instr} (h : (Decoder.instr pc) c pc = .ok (i, pc + n)) : decode c pc = .ok (i, n) := by
  change Except.bind ((Decoder.instr pc) c pc) _ = _
  rw [h]
  change Except.ok (i, pc + n - pc) = _
  rw [Nat.add_sub_cancel_left]
theorem dk_u1 {c : ByteArray} {p b : Nat} {x : UInt8} {r : List UInt8} (h : c.data.toList.drop p = x :: r) (hb : x.toNat = b) : (Reader.u1 : Decoder Nat) c p = .ok (b, p + 1) := by
  have hl : p < c.data.toList.length := by
    rcases Nat.lt_or_ge p c.data.toList.length with h9 | h9
    · exact h9
    · rw [List.drop_eq_nil_of_le h9] at h
      cases h
  have hs : p < c.size := hl
  have hx : c.data.toList[p] = x := by
    rw [List.drop_eq_getElem_cons hl] at h
    exact (List.cons.inj h).1
  have hx : c[p] = x := hx
  change (dite (p < c.size) (fun h9 => (do set (p + 1); pure c[p].toNat : Decoder Nat)) (fun _ => throw (HasTruncated.truncated p))) c p = _
  rw [dif_pos hs, hx, hb]
  rfl
theorem dk_tl {L : List UInt8} {p : Nat} {x : UInt8} {r : List UInt8} (h : L.drop p = x :: r) : L.drop (p + 1) = r := by
  have h1 : (L.drop p).drop 1 = r := by rw [h]; rfl
  rw [List.drop_drop] at h1
  exact h1
theorem dk_r0 {c : ByteArray} {pc b : Nat} (h : dk_0 c pc b = true) : (Reader.u1 : Decoder Nat) c pc = .ok (b, pc + 1) := by
  unfold dk_0 at h
  rw [dk_q_eq] at h
  split at h
  · next x r hd => exact dk_u1 hd (Nat.eq_of_beq_eq_true h)
  · cases h
theorem dk_and {a b : Bool} (h : a.and b = true) : a = true ∧ b = true := by
  cases a
  · cases h
  · exact ⟨rfl, h⟩
theorem dk_r1a {c : ByteArray} {pc b n : Nat} (h : dk_1 c pc b n = true) : (Reader.u1 : Decoder Nat) c pc = .ok (b, pc + 1) := by
  unfold dk_1 at h
  rw [dk_q_eq] at h
  split at h
  · next x y r hd => exact dk_u1 hd (Nat.eq_of_beq_eq_true (dk_and h).1)
  · cases h
theorem dk_r1b {c : ByteArray} {pc b n : Nat} (h : dk_1 c pc b n = true) : (Reader.u1 : Decoder Nat) c (pc + 1) = .ok (n, pc + 2) := by
  unfold dk_1 at h
  rw [dk_q_eq] at h
  split at h
  · next x y r hd => exact dk_u1 (dk_tl hd) (Nat.eq_of_beq_eq_true (dk_and h).2)
  · cases h
theorem dk_u2 {c : ByteArray} {p n : Nat} {x y : UInt8} {r : List UInt8} (h : c.data.toList.drop p = x :: y :: r) (hb : x.toNat * 256 + y.toNat = n) : (Reader.u2 : Decoder Nat) c p = .ok (n, p + 2) := by
  refine (dk_bind (dk_u1 h rfl)).trans ?_
  refine (dk_bind (dk_u1 (dk_tl h) rfl)).trans ?_
  rw [hb]
  rfl
theorem dk_r2a {c : ByteArray} {pc b n : Nat} (h : dk_2 c pc b n = true) : (Reader.u1 : Decoder Nat) c pc = .ok (b, pc + 1) := by
  unfold dk_2 at h
  rw [dk_q_eq] at h
  split at h
  · next x y z r hd => exact dk_u1 hd (Nat.eq_of_beq_eq_true (dk_and h).1)
  · cases h
theorem dk_r2b {c : ByteArray} {pc b n : Nat} (h : dk_2 c pc b n = true) : (Reader.u2 : Decoder Nat) c (pc + 1) = .ok (n, pc + 3) := by
  unfold dk_2 at h
  rw [dk_q_eq] at h
  split at h
  · next x y z r hd => exact dk_u2 (dk_tl hd) (Nat.eq_of_beq_eq_true (dk_and h).2)
  · cases h
theorem dk_s1 {c : ByteArray} {p : Nat} {n : Int} {x : UInt8} {r : List UInt8} (h : c.data.toList.drop p = x :: r) (hb : Reader.signed 8 x.toNat = n) : (Reader.s1 : Decoder Int) c p = .ok (n, p + 1) := by
  change Except.bind ((Reader.u1 : Decoder Nat) c p) _ = _
  rw [dk_u1 h rfl, ← hb]
  rfl
theorem dk_s2 {c : ByteArray} {p : Nat} {n : Int} {x y : UInt8} {r : List UInt8} (h : c.data.toList.drop p = x :: y :: r) (hb : Reader.signed 16 (x.toNat * 256 + y.toNat) = n) : (Reader.s2 : Decoder Int) c p = .ok (n, p + 2) := by
  change Except.bind ((Reader.u2 : Decoder Nat) c p) _ = _
  rw [dk_u2 h rfl, ← hb]
  rfl
theorem dk_rsa {c : ByteArray} {pc b : Nat} {n : Int} (h : dk_s c pc b n = true) : (Reader.u1 : Decoder Nat) c pc = .ok (b, pc + 1) := by
  unfold dk_s at h
  rw [dk_q_eq] at h
  split at h
  · next x y r hd => exact dk_u1 hd (Nat.eq_of_beq_eq_true (dk_and h).1)
  · cases h
theorem dk_rsb {c : ByteArray} {pc b : Nat} {n : Int} (h : dk_s c pc b n = true) : (Reader.s1 : Decoder Int) c (pc + 1) = .ok (n, pc + 2) := by
  unfold dk_s at h
  rw [dk_q_eq] at h
  split at h
  · next x y r hd => exact dk_s1 (dk_tl hd) (of_decide_eq_true (dk_and h).2)
  · cases h
theorem dk_rta {c : ByteArray} {pc b : Nat} {n : Int} (h : dk_t c pc b n = true) : (Reader.u1 : Decoder Nat) c pc = .ok (b, pc + 1) := by
  unfold dk_t at h
  rw [dk_q_eq] at h
  split at h
  · next x y z r hd => exact dk_u1 hd (Nat.eq_of_beq_eq_true (dk_and h).1)
  · cases h
theorem dk_rtb {c : ByteArray} {pc b : Nat} {n : Int} (h : dk_t c pc b n = true) : (Reader.s2 : Decoder Int) c (pc + 1) = .ok (n, pc + 3) := by
  unfold dk_t at h
  rw [dk_q_eq] at h
  split at h
  · next x y z r hd => exact dk_s2 (dk_tl hd) (of_decide_eq_true (dk_and h).2)
  · cases h
theorem dk_ria {c : ByteArray} {pc n : Nat} {k : Int} (h : dk_i c pc n k = true) : (Reader.u1 : Decoder Nat) c pc = .ok (132, pc + 1) := by
  unfold dk_i at h
  rw [dk_q_eq] at h
  split at h
  · next x y z r hd => exact dk_u1 hd (Nat.eq_of_beq_eq_true (dk_and (dk_and h).1).1)
  · cases h
theorem dk_rib {c : ByteArray} {pc n : Nat} {k : Int} (h : dk_i c pc n k = true) : (Reader.u1 : Decoder Nat) c (pc + 1) = .ok (n, pc + 2) := by
  unfold dk_i at h
  rw [dk_q_eq] at h
  split at h
  · next x y z r hd => exact dk_u1 (dk_tl hd) (Nat.eq_of_beq_eq_true (dk_and (dk_and h).1).2)
  · cases h
theorem dk_ric {c : ByteArray} {pc n : Nat} {k : Int} (h : dk_i c pc n k = true) : (Reader.s1 : Decoder Int) c (pc + 2) = .ok (k, pc + 3) := by
  unfold dk_i at h
  rw [dk_q_eq] at h
  split at h
  · next x y z r hd => exact dk_s1 (dk_tl (dk_tl hd)) (of_decide_eq_true (dk_and h).2)
  · cases h
theorem dc_0 {c : ByteArray} {pc : Nat} (h : dk_0 c pc 0 = true) : decode c pc = .ok (.nop, 1) := dk_ok (Eq.trans (dk_bind (dk_r0 h)) rfl)
theorem dc_1 {c : ByteArray} {pc : Nat} (h : dk_0 c pc 1 = true) : decode c pc = .ok (.aconst_null, 1) := dk_ok (Eq.trans (dk_bind (dk_r0 h)) rfl)
theorem dc_2 {c : ByteArray} {pc : Nat} (h : dk_0 c pc 2 = true) : decode c pc = .ok (.iconst (-1), 1) := dk_ok (Eq.trans (dk_bind (dk_r0 h)) rfl)
theorem dc_3 {c : ByteArray} {pc : Nat} (h : dk_0 c pc 3 = true) : decode c pc = .ok (.iconst 0, 1) := dk_ok (Eq.trans (dk_bind (dk_r0 h)) rfl)
theorem dc_4 {c : ByteArray} {pc : Nat} (h : dk_0 c pc 4 = true) : decode c pc = .ok (.iconst 1, 1) := dk_ok (Eq.trans (dk_bind (dk_r0 h)) rfl)
theorem dc_5 {c : ByteArray} {pc : Nat} (h : dk_0 c pc 5 = true) : decode c pc = .ok (.iconst 2, 1) := dk_ok (Eq.trans (dk_bind (dk_r0 h)) rfl)
theorem dc_6 {c : ByteArray} {pc : Nat} (h : dk_0 c pc 6 = true) : decode c pc = .ok (.iconst 3, 1) := dk_ok (Eq.trans (dk_bind (dk_r0 h)) rfl)
theorem dc_7 {c : ByteArray} {pc : Nat} (h : dk_0 c pc 7 = true) : decode c pc = .ok (.iconst 4, 1) := dk_ok (Eq.trans (dk_bind (dk_r0 h)) rfl)
theorem dc_8 {c : ByteArray} {pc : Nat} (h : dk_0 c pc 8 = true) : decode c pc = .ok (.iconst 5, 1) := dk_ok (Eq.trans (dk_bind (dk_r0 h)) rfl)
theorem dc_9 {c : ByteArray} {pc : Nat} (h : dk_0 c pc 9 = true) : decode c pc = .ok (.lconst 0, 1) := dk_ok (Eq.trans (dk_bind (dk_r0 h)) rfl)
theorem dc_10 {c : ByteArray} {pc : Nat} (h : dk_0 c pc 10 = true) : decode c pc = .ok (.lconst 1, 1) := dk_ok (Eq.trans (dk_bind (dk_r0 h)) rfl)
theorem dc_16 {c : ByteArray} {pc : Nat} {n : Int} (h : dk_s c pc 16 n = true) : decode c pc = .ok (.bipush n, 2) := dk_ok (Eq.trans (dk_bind (dk_rsa h)) (Eq.trans (dk_bind (dk_rsb h)) rfl))
theorem dc_17 {c : ByteArray} {pc : Nat} {n : Int} (h : dk_t c pc 17 n = true) : decode c pc = .ok (.sipush n, 3) := dk_ok (Eq.trans (dk_bind (dk_rta h)) (Eq.trans (dk_bind (dk_rtb h)) rfl))
theorem dc_18 {c : ByteArray} {pc n : Nat} (h : dk_1 c pc 18 n = true) : decode c pc = .ok (.ldc n, 2) := dk_ok (Eq.trans (dk_bind (dk_r1a h)) (Eq.trans (dk_bind (dk_r1b h)) rfl))
theorem dc_19 {c : ByteArray} {pc n : Nat} (h : dk_2 c pc 19 n = true) : decode c pc = .ok (.ldc_w n, 3) := dk_ok (Eq.trans (dk_bind (dk_r2a h)) (Eq.trans (dk_bind (dk_r2b h)) rfl))
theorem dc_20 {c : ByteArray} {pc n : Nat} (h : dk_2 c pc 20 n = true) : decode c pc = .ok (.ldc2_w n, 3) := dk_ok (Eq.trans (dk_bind (dk_r2a h)) (Eq.trans (dk_bind (dk_r2b h)) rfl))
theorem dc_21 {c : ByteArray} {pc n : Nat} (h : dk_1 c pc 21 n = true) : decode c pc = .ok (.iload n, 2) := dk_ok (Eq.trans (dk_bind (dk_r1a h)) (Eq.trans (dk_bind (dk_r1b h)) rfl))
theorem dc_22 {c : ByteArray} {pc n : Nat} (h : dk_1 c pc 22 n = true) : decode c pc = .ok (.lload n, 2) := dk_ok (Eq.trans (dk_bind (dk_r1a h)) (Eq.trans (dk_bind (dk_r1b h)) rfl))
theorem dc_25 {c : ByteArray} {pc n : Nat} (h : dk_1 c pc 25 n = true) : decode c pc = .ok (.aload n, 2) := dk_ok (Eq.trans (dk_bind (dk_r1a h)) (Eq.trans (dk_bind (dk_r1b h)) rfl))
theorem dc_26 {c : ByteArray} {pc : Nat} (h : dk_0 c pc 26 = true) : decode c pc = .ok (.iload_n 0, 1) := dk_ok (Eq.trans (dk_bind (dk_r0 h)) rfl)
theorem dc_27 {c : ByteArray} {pc : Nat} (h : dk_0 c pc 27 = true) : decode c pc = .ok (.iload_n 1, 1) := dk_ok (Eq.trans (dk_bind (dk_r0 h)) rfl)
theorem dc_28 {c : ByteArray} {pc : Nat} (h : dk_0 c pc 28 = true) : decode c pc = .ok (.iload_n 2, 1) := dk_ok (Eq.trans (dk_bind (dk_r0 h)) rfl)
theorem dc_29 {c : ByteArray} {pc : Nat} (h : dk_0 c pc 29 = true) : decode c pc = .ok (.iload_n 3, 1) := dk_ok (Eq.trans (dk_bind (dk_r0 h)) rfl)
theorem dc_30 {c : ByteArray} {pc : Nat} (h : dk_0 c pc 30 = true) : decode c pc = .ok (.lload_n 0, 1) := dk_ok (Eq.trans (dk_bind (dk_r0 h)) rfl)
theorem dc_31 {c : ByteArray} {pc : Nat} (h : dk_0 c pc 31 = true) : decode c pc = .ok (.lload_n 1, 1) := dk_ok (Eq.trans (dk_bind (dk_r0 h)) rfl)
theorem dc_32 {c : ByteArray} {pc : Nat} (h : dk_0 c pc 32 = true) : decode c pc = .ok (.lload_n 2, 1) := dk_ok (Eq.trans (dk_bind (dk_r0 h)) rfl)
theorem dc_33 {c : ByteArray} {pc : Nat} (h : dk_0 c pc 33 = true) : decode c pc = .ok (.lload_n 3, 1) := dk_ok (Eq.trans (dk_bind (dk_r0 h)) rfl)
theorem dc_42 {c : ByteArray} {pc : Nat} (h : dk_0 c pc 42 = true) : decode c pc = .ok (.aload_n 0, 1) := dk_ok (Eq.trans (dk_bind (dk_r0 h)) rfl)
theorem dc_43 {c : ByteArray} {pc : Nat} (h : dk_0 c pc 43 = true) : decode c pc = .ok (.aload_n 1, 1) := dk_ok (Eq.trans (dk_bind (dk_r0 h)) rfl)
theorem dc_44 {c : ByteArray} {pc : Nat} (h : dk_0 c pc 44 = true) : decode c pc = .ok (.aload_n 2, 1) := dk_ok (Eq.trans (dk_bind (dk_r0 h)) rfl)
theorem dc_45 {c : ByteArray} {pc : Nat} (h : dk_0 c pc 45 = true) : decode c pc = .ok (.aload_n 3, 1) := dk_ok (Eq.trans (dk_bind (dk_r0 h)) rfl)
theorem dc_46 {c : ByteArray} {pc : Nat} (h : dk_0 c pc 46 = true) : decode c pc = .ok (.iaload, 1) := dk_ok (Eq.trans (dk_bind (dk_r0 h)) rfl)
theorem dc_47 {c : ByteArray} {pc : Nat} (h : dk_0 c pc 47 = true) : decode c pc = .ok (.laload, 1) := dk_ok (Eq.trans (dk_bind (dk_r0 h)) rfl)
theorem dc_50 {c : ByteArray} {pc : Nat} (h : dk_0 c pc 50 = true) : decode c pc = .ok (.aaload, 1) := dk_ok (Eq.trans (dk_bind (dk_r0 h)) rfl)
theorem dc_51 {c : ByteArray} {pc : Nat} (h : dk_0 c pc 51 = true) : decode c pc = .ok (.baload, 1) := dk_ok (Eq.trans (dk_bind (dk_r0 h)) rfl)
theorem dc_52 {c : ByteArray} {pc : Nat} (h : dk_0 c pc 52 = true) : decode c pc = .ok (.caload, 1) := dk_ok (Eq.trans (dk_bind (dk_r0 h)) rfl)
theorem dc_53 {c : ByteArray} {pc : Nat} (h : dk_0 c pc 53 = true) : decode c pc = .ok (.saload, 1) := dk_ok (Eq.trans (dk_bind (dk_r0 h)) rfl)
theorem dc_54 {c : ByteArray} {pc n : Nat} (h : dk_1 c pc 54 n = true) : decode c pc = .ok (.istore n, 2) := dk_ok (Eq.trans (dk_bind (dk_r1a h)) (Eq.trans (dk_bind (dk_r1b h)) rfl))
theorem dc_55 {c : ByteArray} {pc n : Nat} (h : dk_1 c pc 55 n = true) : decode c pc = .ok (.lstore n, 2) := dk_ok (Eq.trans (dk_bind (dk_r1a h)) (Eq.trans (dk_bind (dk_r1b h)) rfl))
theorem dc_58 {c : ByteArray} {pc n : Nat} (h : dk_1 c pc 58 n = true) : decode c pc = .ok (.astore n, 2) := dk_ok (Eq.trans (dk_bind (dk_r1a h)) (Eq.trans (dk_bind (dk_r1b h)) rfl))
theorem dc_59 {c : ByteArray} {pc : Nat} (h : dk_0 c pc 59 = true) : decode c pc = .ok (.istore_n 0, 1) := dk_ok (Eq.trans (dk_bind (dk_r0 h)) rfl)
theorem dc_60 {c : ByteArray} {pc : Nat} (h : dk_0 c pc 60 = true) : decode c pc = .ok (.istore_n 1, 1) := dk_ok (Eq.trans (dk_bind (dk_r0 h)) rfl)
theorem dc_61 {c : ByteArray} {pc : Nat} (h : dk_0 c pc 61 = true) : decode c pc = .ok (.istore_n 2, 1) := dk_ok (Eq.trans (dk_bind (dk_r0 h)) rfl)
theorem dc_62 {c : ByteArray} {pc : Nat} (h : dk_0 c pc 62 = true) : decode c pc = .ok (.istore_n 3, 1) := dk_ok (Eq.trans (dk_bind (dk_r0 h)) rfl)
theorem dc_63 {c : ByteArray} {pc : Nat} (h : dk_0 c pc 63 = true) : decode c pc = .ok (.lstore_n 0, 1) := dk_ok (Eq.trans (dk_bind (dk_r0 h)) rfl)
theorem dc_64 {c : ByteArray} {pc : Nat} (h : dk_0 c pc 64 = true) : decode c pc = .ok (.lstore_n 1, 1) := dk_ok (Eq.trans (dk_bind (dk_r0 h)) rfl)
theorem dc_65 {c : ByteArray} {pc : Nat} (h : dk_0 c pc 65 = true) : decode c pc = .ok (.lstore_n 2, 1) := dk_ok (Eq.trans (dk_bind (dk_r0 h)) rfl)
theorem dc_66 {c : ByteArray} {pc : Nat} (h : dk_0 c pc 66 = true) : decode c pc = .ok (.lstore_n 3, 1) := dk_ok (Eq.trans (dk_bind (dk_r0 h)) rfl)
theorem dc_75 {c : ByteArray} {pc : Nat} (h : dk_0 c pc 75 = true) : decode c pc = .ok (.astore_n 0, 1) := dk_ok (Eq.trans (dk_bind (dk_r0 h)) rfl)
theorem dc_76 {c : ByteArray} {pc : Nat} (h : dk_0 c pc 76 = true) : decode c pc = .ok (.astore_n 1, 1) := dk_ok (Eq.trans (dk_bind (dk_r0 h)) rfl)
theorem dc_77 {c : ByteArray} {pc : Nat} (h : dk_0 c pc 77 = true) : decode c pc = .ok (.astore_n 2, 1) := dk_ok (Eq.trans (dk_bind (dk_r0 h)) rfl)
theorem dc_78 {c : ByteArray} {pc : Nat} (h : dk_0 c pc 78 = true) : decode c pc = .ok (.astore_n 3, 1) := dk_ok (Eq.trans (dk_bind (dk_r0 h)) rfl)
theorem dc_79 {c : ByteArray} {pc : Nat} (h : dk_0 c pc 79 = true) : decode c pc = .ok (.iastore, 1) := dk_ok (Eq.trans (dk_bind (dk_r0 h)) rfl)
theorem dc_80 {c : ByteArray} {pc : Nat} (h : dk_0 c pc 80 = true) : decode c pc = .ok (.lastore, 1) := dk_ok (Eq.trans (dk_bind (dk_r0 h)) rfl)
theorem dc_83 {c : ByteArray} {pc : Nat} (h : dk_0 c pc 83 = true) : decode c pc = .ok (.aastore, 1) := dk_ok (Eq.trans (dk_bind (dk_r0 h)) rfl)
theorem dc_84 {c : ByteArray} {pc : Nat} (h : dk_0 c pc 84 = true) : decode c pc = .ok (.bastore, 1) := dk_ok (Eq.trans (dk_bind (dk_r0 h)) rfl)
theorem dc_85 {c : ByteArray} {pc : Nat} (h : dk_0 c pc 85 = true) : decode c pc = .ok (.castore, 1) := dk_ok (Eq.trans (dk_bind (dk_r0 h)) rfl)
theorem dc_86 {c : ByteArray} {pc : Nat} (h : dk_0 c pc 86 = true) : decode c pc = .ok (.sastore, 1) := dk_ok (Eq.trans (dk_bind (dk_r0 h)) rfl)
theorem dc_87 {c : ByteArray} {pc : Nat} (h : dk_0 c pc 87 = true) : decode c pc = .ok (.pop, 1) := dk_ok (Eq.trans (dk_bind (dk_r0 h)) rfl)
theorem dc_88 {c : ByteArray} {pc : Nat} (h : dk_0 c pc 88 = true) : decode c pc = .ok (.pop2, 1) := dk_ok (Eq.trans (dk_bind (dk_r0 h)) rfl)
theorem dc_89 {c : ByteArray} {pc : Nat} (h : dk_0 c pc 89 = true) : decode c pc = .ok (.dup, 1) := dk_ok (Eq.trans (dk_bind (dk_r0 h)) rfl)
theorem dc_90 {c : ByteArray} {pc : Nat} (h : dk_0 c pc 90 = true) : decode c pc = .ok (.dup_x1, 1) := dk_ok (Eq.trans (dk_bind (dk_r0 h)) rfl)
theorem dc_91 {c : ByteArray} {pc : Nat} (h : dk_0 c pc 91 = true) : decode c pc = .ok (.dup_x2, 1) := dk_ok (Eq.trans (dk_bind (dk_r0 h)) rfl)
theorem dc_92 {c : ByteArray} {pc : Nat} (h : dk_0 c pc 92 = true) : decode c pc = .ok (.dup2, 1) := dk_ok (Eq.trans (dk_bind (dk_r0 h)) rfl)
theorem dc_93 {c : ByteArray} {pc : Nat} (h : dk_0 c pc 93 = true) : decode c pc = .ok (.dup2_x1, 1) := dk_ok (Eq.trans (dk_bind (dk_r0 h)) rfl)
theorem dc_94 {c : ByteArray} {pc : Nat} (h : dk_0 c pc 94 = true) : decode c pc = .ok (.dup2_x2, 1) := dk_ok (Eq.trans (dk_bind (dk_r0 h)) rfl)
theorem dc_95 {c : ByteArray} {pc : Nat} (h : dk_0 c pc 95 = true) : decode c pc = .ok (.swap, 1) := dk_ok (Eq.trans (dk_bind (dk_r0 h)) rfl)
theorem dc_96 {c : ByteArray} {pc : Nat} (h : dk_0 c pc 96 = true) : decode c pc = .ok (.iadd, 1) := dk_ok (Eq.trans (dk_bind (dk_r0 h)) rfl)
theorem dc_97 {c : ByteArray} {pc : Nat} (h : dk_0 c pc 97 = true) : decode c pc = .ok (.ladd, 1) := dk_ok (Eq.trans (dk_bind (dk_r0 h)) rfl)
theorem dc_100 {c : ByteArray} {pc : Nat} (h : dk_0 c pc 100 = true) : decode c pc = .ok (.isub, 1) := dk_ok (Eq.trans (dk_bind (dk_r0 h)) rfl)
theorem dc_101 {c : ByteArray} {pc : Nat} (h : dk_0 c pc 101 = true) : decode c pc = .ok (.lsub, 1) := dk_ok (Eq.trans (dk_bind (dk_r0 h)) rfl)
theorem dc_104 {c : ByteArray} {pc : Nat} (h : dk_0 c pc 104 = true) : decode c pc = .ok (.imul, 1) := dk_ok (Eq.trans (dk_bind (dk_r0 h)) rfl)
theorem dc_105 {c : ByteArray} {pc : Nat} (h : dk_0 c pc 105 = true) : decode c pc = .ok (.lmul, 1) := dk_ok (Eq.trans (dk_bind (dk_r0 h)) rfl)
theorem dc_108 {c : ByteArray} {pc : Nat} (h : dk_0 c pc 108 = true) : decode c pc = .ok (.idiv, 1) := dk_ok (Eq.trans (dk_bind (dk_r0 h)) rfl)
theorem dc_109 {c : ByteArray} {pc : Nat} (h : dk_0 c pc 109 = true) : decode c pc = .ok (.ldiv, 1) := dk_ok (Eq.trans (dk_bind (dk_r0 h)) rfl)
theorem dc_112 {c : ByteArray} {pc : Nat} (h : dk_0 c pc 112 = true) : decode c pc = .ok (.irem, 1) := dk_ok (Eq.trans (dk_bind (dk_r0 h)) rfl)
theorem dc_113 {c : ByteArray} {pc : Nat} (h : dk_0 c pc 113 = true) : decode c pc = .ok (.lrem, 1) := dk_ok (Eq.trans (dk_bind (dk_r0 h)) rfl)
theorem dc_116 {c : ByteArray} {pc : Nat} (h : dk_0 c pc 116 = true) : decode c pc = .ok (.ineg, 1) := dk_ok (Eq.trans (dk_bind (dk_r0 h)) rfl)
theorem dc_117 {c : ByteArray} {pc : Nat} (h : dk_0 c pc 117 = true) : decode c pc = .ok (.lneg, 1) := dk_ok (Eq.trans (dk_bind (dk_r0 h)) rfl)
theorem dc_120 {c : ByteArray} {pc : Nat} (h : dk_0 c pc 120 = true) : decode c pc = .ok (.ishl, 1) := dk_ok (Eq.trans (dk_bind (dk_r0 h)) rfl)
theorem dc_121 {c : ByteArray} {pc : Nat} (h : dk_0 c pc 121 = true) : decode c pc = .ok (.lshl, 1) := dk_ok (Eq.trans (dk_bind (dk_r0 h)) rfl)
theorem dc_122 {c : ByteArray} {pc : Nat} (h : dk_0 c pc 122 = true) : decode c pc = .ok (.ishr, 1) := dk_ok (Eq.trans (dk_bind (dk_r0 h)) rfl)
theorem dc_123 {c : ByteArray} {pc : Nat} (h : dk_0 c pc 123 = true) : decode c pc = .ok (.lshr, 1) := dk_ok (Eq.trans (dk_bind (dk_r0 h)) rfl)
theorem dc_124 {c : ByteArray} {pc : Nat} (h : dk_0 c pc 124 = true) : decode c pc = .ok (.iushr, 1) := dk_ok (Eq.trans (dk_bind (dk_r0 h)) rfl)
theorem dc_125 {c : ByteArray} {pc : Nat} (h : dk_0 c pc 125 = true) : decode c pc = .ok (.lushr, 1) := dk_ok (Eq.trans (dk_bind (dk_r0 h)) rfl)
theorem dc_126 {c : ByteArray} {pc : Nat} (h : dk_0 c pc 126 = true) : decode c pc = .ok (.iand, 1) := dk_ok (Eq.trans (dk_bind (dk_r0 h)) rfl)
theorem dc_127 {c : ByteArray} {pc : Nat} (h : dk_0 c pc 127 = true) : decode c pc = .ok (.land, 1) := dk_ok (Eq.trans (dk_bind (dk_r0 h)) rfl)
theorem dc_128 {c : ByteArray} {pc : Nat} (h : dk_0 c pc 128 = true) : decode c pc = .ok (.ior, 1) := dk_ok (Eq.trans (dk_bind (dk_r0 h)) rfl)
theorem dc_129 {c : ByteArray} {pc : Nat} (h : dk_0 c pc 129 = true) : decode c pc = .ok (.lor, 1) := dk_ok (Eq.trans (dk_bind (dk_r0 h)) rfl)
theorem dc_130 {c : ByteArray} {pc : Nat} (h : dk_0 c pc 130 = true) : decode c pc = .ok (.ixor, 1) := dk_ok (Eq.trans (dk_bind (dk_r0 h)) rfl)
theorem dc_131 {c : ByteArray} {pc : Nat} (h : dk_0 c pc 131 = true) : decode c pc = .ok (.lxor, 1) := dk_ok (Eq.trans (dk_bind (dk_r0 h)) rfl)
theorem dc_132 {c : ByteArray} {pc n : Nat} {k : Int} (h : dk_i c pc n k = true) : decode c pc = .ok (.iinc n k, 3) := dk_ok (Eq.trans (dk_bind (dk_ria h)) (Eq.trans (dk_bind (dk_rib h)) (Eq.trans (dk_bind (dk_ric h)) rfl)))
theorem dc_133 {c : ByteArray} {pc : Nat} (h : dk_0 c pc 133 = true) : decode c pc = .ok (.i2l, 1) := dk_ok (Eq.trans (dk_bind (dk_r0 h)) rfl)
theorem dc_134 {c : ByteArray} {pc : Nat} (h : dk_0 c pc 134 = true) : decode c pc = .ok (.i2f, 1) := dk_ok (Eq.trans (dk_bind (dk_r0 h)) rfl)
theorem dc_135 {c : ByteArray} {pc : Nat} (h : dk_0 c pc 135 = true) : decode c pc = .ok (.i2d, 1) := dk_ok (Eq.trans (dk_bind (dk_r0 h)) rfl)
theorem dc_136 {c : ByteArray} {pc : Nat} (h : dk_0 c pc 136 = true) : decode c pc = .ok (.l2i, 1) := dk_ok (Eq.trans (dk_bind (dk_r0 h)) rfl)
theorem dc_137 {c : ByteArray} {pc : Nat} (h : dk_0 c pc 137 = true) : decode c pc = .ok (.l2f, 1) := dk_ok (Eq.trans (dk_bind (dk_r0 h)) rfl)
theorem dc_138 {c : ByteArray} {pc : Nat} (h : dk_0 c pc 138 = true) : decode c pc = .ok (.l2d, 1) := dk_ok (Eq.trans (dk_bind (dk_r0 h)) rfl)
theorem dc_145 {c : ByteArray} {pc : Nat} (h : dk_0 c pc 145 = true) : decode c pc = .ok (.i2b, 1) := dk_ok (Eq.trans (dk_bind (dk_r0 h)) rfl)
theorem dc_146 {c : ByteArray} {pc : Nat} (h : dk_0 c pc 146 = true) : decode c pc = .ok (.i2c, 1) := dk_ok (Eq.trans (dk_bind (dk_r0 h)) rfl)
theorem dc_147 {c : ByteArray} {pc : Nat} (h : dk_0 c pc 147 = true) : decode c pc = .ok (.i2s, 1) := dk_ok (Eq.trans (dk_bind (dk_r0 h)) rfl)
theorem dc_148 {c : ByteArray} {pc : Nat} (h : dk_0 c pc 148 = true) : decode c pc = .ok (.lcmp, 1) := dk_ok (Eq.trans (dk_bind (dk_r0 h)) rfl)
theorem dc_153 {c : ByteArray} {pc : Nat} {n : Int} (h : dk_t c pc 153 n = true) : decode c pc = .ok (.ifCond .eq n, 3) := dk_ok (Eq.trans (dk_bind (dk_rta h)) (Eq.trans (dk_bind (dk_rtb h)) rfl))
theorem dc_154 {c : ByteArray} {pc : Nat} {n : Int} (h : dk_t c pc 154 n = true) : decode c pc = .ok (.ifCond .ne n, 3) := dk_ok (Eq.trans (dk_bind (dk_rta h)) (Eq.trans (dk_bind (dk_rtb h)) rfl))
theorem dc_155 {c : ByteArray} {pc : Nat} {n : Int} (h : dk_t c pc 155 n = true) : decode c pc = .ok (.ifCond .lt n, 3) := dk_ok (Eq.trans (dk_bind (dk_rta h)) (Eq.trans (dk_bind (dk_rtb h)) rfl))
theorem dc_156 {c : ByteArray} {pc : Nat} {n : Int} (h : dk_t c pc 156 n = true) : decode c pc = .ok (.ifCond .ge n, 3) := dk_ok (Eq.trans (dk_bind (dk_rta h)) (Eq.trans (dk_bind (dk_rtb h)) rfl))
theorem dc_157 {c : ByteArray} {pc : Nat} {n : Int} (h : dk_t c pc 157 n = true) : decode c pc = .ok (.ifCond .gt n, 3) := dk_ok (Eq.trans (dk_bind (dk_rta h)) (Eq.trans (dk_bind (dk_rtb h)) rfl))
theorem dc_158 {c : ByteArray} {pc : Nat} {n : Int} (h : dk_t c pc 158 n = true) : decode c pc = .ok (.ifCond .le n, 3) := dk_ok (Eq.trans (dk_bind (dk_rta h)) (Eq.trans (dk_bind (dk_rtb h)) rfl))
theorem dc_159 {c : ByteArray} {pc : Nat} {n : Int} (h : dk_t c pc 159 n = true) : decode c pc = .ok (.if_icmp .eq n, 3) := dk_ok (Eq.trans (dk_bind (dk_rta h)) (Eq.trans (dk_bind (dk_rtb h)) rfl))
theorem dc_160 {c : ByteArray} {pc : Nat} {n : Int} (h : dk_t c pc 160 n = true) : decode c pc = .ok (.if_icmp .ne n, 3) := dk_ok (Eq.trans (dk_bind (dk_rta h)) (Eq.trans (dk_bind (dk_rtb h)) rfl))
theorem dc_161 {c : ByteArray} {pc : Nat} {n : Int} (h : dk_t c pc 161 n = true) : decode c pc = .ok (.if_icmp .lt n, 3) := dk_ok (Eq.trans (dk_bind (dk_rta h)) (Eq.trans (dk_bind (dk_rtb h)) rfl))
theorem dc_162 {c : ByteArray} {pc : Nat} {n : Int} (h : dk_t c pc 162 n = true) : decode c pc = .ok (.if_icmp .ge n, 3) := dk_ok (Eq.trans (dk_bind (dk_rta h)) (Eq.trans (dk_bind (dk_rtb h)) rfl))
theorem dc_163 {c : ByteArray} {pc : Nat} {n : Int} (h : dk_t c pc 163 n = true) : decode c pc = .ok (.if_icmp .gt n, 3) := dk_ok (Eq.trans (dk_bind (dk_rta h)) (Eq.trans (dk_bind (dk_rtb h)) rfl))
theorem dc_164 {c : ByteArray} {pc : Nat} {n : Int} (h : dk_t c pc 164 n = true) : decode c pc = .ok (.if_icmp .le n, 3) := dk_ok (Eq.trans (dk_bind (dk_rta h)) (Eq.trans (dk_bind (dk_rtb h)) rfl))
theorem dc_165 {c : ByteArray} {pc : Nat} {n : Int} (h : dk_t c pc 165 n = true) : decode c pc = .ok (.if_acmp .eq n, 3) := dk_ok (Eq.trans (dk_bind (dk_rta h)) (Eq.trans (dk_bind (dk_rtb h)) rfl))
theorem dc_166 {c : ByteArray} {pc : Nat} {n : Int} (h : dk_t c pc 166 n = true) : decode c pc = .ok (.if_acmp .ne n, 3) := dk_ok (Eq.trans (dk_bind (dk_rta h)) (Eq.trans (dk_bind (dk_rtb h)) rfl))
theorem dc_167 {c : ByteArray} {pc : Nat} {n : Int} (h : dk_t c pc 167 n = true) : decode c pc = .ok (.goto n, 3) := dk_ok (Eq.trans (dk_bind (dk_rta h)) (Eq.trans (dk_bind (dk_rtb h)) rfl))
theorem dc_172 {c : ByteArray} {pc : Nat} (h : dk_0 c pc 172 = true) : decode c pc = .ok (.ireturn, 1) := dk_ok (Eq.trans (dk_bind (dk_r0 h)) rfl)
theorem dc_173 {c : ByteArray} {pc : Nat} (h : dk_0 c pc 173 = true) : decode c pc = .ok (.lreturn, 1) := dk_ok (Eq.trans (dk_bind (dk_r0 h)) rfl)
theorem dc_176 {c : ByteArray} {pc : Nat} (h : dk_0 c pc 176 = true) : decode c pc = .ok (.areturn, 1) := dk_ok (Eq.trans (dk_bind (dk_r0 h)) rfl)
theorem dc_177 {c : ByteArray} {pc : Nat} (h : dk_0 c pc 177 = true) : decode c pc = .ok (.return_, 1) := dk_ok (Eq.trans (dk_bind (dk_r0 h)) rfl)
theorem dc_178 {c : ByteArray} {pc n : Nat} (h : dk_2 c pc 178 n = true) : decode c pc = .ok (.getstatic n, 3) := dk_ok (Eq.trans (dk_bind (dk_r2a h)) (Eq.trans (dk_bind (dk_r2b h)) rfl))
theorem dc_179 {c : ByteArray} {pc n : Nat} (h : dk_2 c pc 179 n = true) : decode c pc = .ok (.putstatic n, 3) := dk_ok (Eq.trans (dk_bind (dk_r2a h)) (Eq.trans (dk_bind (dk_r2b h)) rfl))
theorem dc_180 {c : ByteArray} {pc n : Nat} (h : dk_2 c pc 180 n = true) : decode c pc = .ok (.getfield n, 3) := dk_ok (Eq.trans (dk_bind (dk_r2a h)) (Eq.trans (dk_bind (dk_r2b h)) rfl))
theorem dc_181 {c : ByteArray} {pc n : Nat} (h : dk_2 c pc 181 n = true) : decode c pc = .ok (.putfield n, 3) := dk_ok (Eq.trans (dk_bind (dk_r2a h)) (Eq.trans (dk_bind (dk_r2b h)) rfl))
theorem dc_182 {c : ByteArray} {pc n : Nat} (h : dk_2 c pc 182 n = true) : decode c pc = .ok (.invokevirtual n, 3) := dk_ok (Eq.trans (dk_bind (dk_r2a h)) (Eq.trans (dk_bind (dk_r2b h)) rfl))
theorem dc_183 {c : ByteArray} {pc n : Nat} (h : dk_2 c pc 183 n = true) : decode c pc = .ok (.invokespecial n, 3) := dk_ok (Eq.trans (dk_bind (dk_r2a h)) (Eq.trans (dk_bind (dk_r2b h)) rfl))
theorem dc_184 {c : ByteArray} {pc n : Nat} (h : dk_2 c pc 184 n = true) : decode c pc = .ok (.invokestatic n, 3) := dk_ok (Eq.trans (dk_bind (dk_r2a h)) (Eq.trans (dk_bind (dk_r2b h)) rfl))
theorem dc_187 {c : ByteArray} {pc n : Nat} (h : dk_2 c pc 187 n = true) : decode c pc = .ok (.new n, 3) := dk_ok (Eq.trans (dk_bind (dk_r2a h)) (Eq.trans (dk_bind (dk_r2b h)) rfl))
theorem dc_189 {c : ByteArray} {pc n : Nat} (h : dk_2 c pc 189 n = true) : decode c pc = .ok (.anewarray n, 3) := dk_ok (Eq.trans (dk_bind (dk_r2a h)) (Eq.trans (dk_bind (dk_r2b h)) rfl))
theorem dc_190 {c : ByteArray} {pc : Nat} (h : dk_0 c pc 190 = true) : decode c pc = .ok (.arraylength, 1) := dk_ok (Eq.trans (dk_bind (dk_r0 h)) rfl)
theorem dc_191 {c : ByteArray} {pc : Nat} (h : dk_0 c pc 191 = true) : decode c pc = .ok (.athrow, 1) := dk_ok (Eq.trans (dk_bind (dk_r0 h)) rfl)
theorem dc_192 {c : ByteArray} {pc n : Nat} (h : dk_2 c pc 192 n = true) : decode c pc = .ok (.checkcast n, 3) := dk_ok (Eq.trans (dk_bind (dk_r2a h)) (Eq.trans (dk_bind (dk_r2b h)) rfl))
theorem dc_193 {c : ByteArray} {pc n : Nat} (h : dk_2 c pc 193 n = true) : decode c pc = .ok (.instanceof n, 3) := dk_ok (Eq.trans (dk_bind (dk_r2a h)) (Eq.trans (dk_bind (dk_r2b h)) rfl))
theorem dc_198 {c : ByteArray} {pc : Nat} {n : Int} (h : dk_t c pc 198 n = true) : decode c pc = .ok (.ifnull n, 3) := dk_ok (Eq.trans (dk_bind (dk_rta h)) (Eq.trans (dk_bind (dk_rtb h)) rfl))
theorem dc_199 {c : ByteArray} {pc : Nat} {n : Int} (h : dk_t c pc 199 n = true) : decode c pc = .ok (.ifnonnull n, 3) := dk_ok (Eq.trans (dk_bind (dk_rta h)) (Eq.trans (dk_bind (dk_rtb h)) rfl))
