set_option maxHeartbeats 40000000 in
set_option maxRecDepth 1000000 in
/-- the law behind its start: the call that the script's first int names -/
theorem law_sw {p : Program} {e : Env} {s : State} {m : MethodId} {below : List Frame} {meth : Method} {c : Code} (l : Launch) (hlt : l.stackTraces = false) {b : Nat} {xs : Nat → Int32} {A : Nat → Prop} (hx : p.tables.exec = Jvm.exec) (hb : c.code = code) (hr : meth.sig.returnType = ret) (hml : c.maxLocals = 7) (hown : s.vm.findClass RL = some m.cls) (hts : ∀ w ∈ lw_tbl, w.before #[Value.ref b] s = true) (hX : va_X b 8 xs s s.heap) (hbl : b < s.heap.size) (hbA : ¬ A b) (hlocks : meth.locks = false) (hE : EV A s s.heap) (hN : NC s) (hA : ∀ q : Nat, s.heap.size ≤ q → A q) (hAi : ∀ q : Nat, A q → s.heap.size ≤ q) {dC : Nat → ClassId} {dI : Nat → Nat → Nat} (a : Nat → Nat) (k : Nat → ClassId) (h0 : Nat) (q : Nat → Nat) (cm : Nat → ClassId) (o0 : Nat) (ko : ClassId) (H : Heap) (locs : List Loc) (hK : va_K (dC, dI) vwCl (((k 1), .int) :: ((k 4), .int) :: ((k 5), .int) :: ((k 6), .int) :: ((k 7), .int) :: ((k 9), .int) :: ((k 10), .int) :: ((k 12), .int) :: ((k 13), .int) :: ((k 15), .boolean) :: ((k 16), .int) :: ((k 17), .int) :: ((k 18), .int) :: ((k 19), .int) :: ((k 20), .int) :: ((k 21), .int) :: ((k 22), .int) :: ((k 23), .int) :: ((k 24), .int) :: ((k 25), .int) :: ((k 28), .int) :: ((k 29), .int) :: ((k 31), (.object "SeaLand$Settler")) :: ((k 32), .int) :: ((k 33), .int) :: ((k 34), .boolean) :: ((k 35), .boolean) :: ((k 36), .long) :: ((k 37), .int) :: ((k 39), .int) :: ((k 40), .int) :: ((k 41), .int) :: ((k 42), .int) :: ((k 43), .int) :: ((k 44), .int) :: ((k 45), .int) :: ((k 46), .int) :: ((k 47), .int) :: ((k 48), .int) :: ((k 49), .long) :: ((k 51), .int) :: ((k 52), .int) :: ((k 53), .int) :: ((k 54), .int) :: ((k 55), .int) :: ((k 56), .int) :: ((k 57), .int) :: ((k 58), .int) :: ((k 59), .int) :: ((k 60), .int) :: ((k 61), .long) :: ((k 63), .int) :: ((k 64), .int) :: ((k 65), .int) :: ((k 66), .int) :: ((k 67), .int) :: ((k 68), .int) :: ((k 69), .int) :: ((k 70), .int) :: ((k 71), .int) :: ((k 72), .int) :: ((k 73), .long) :: ((k 74), (.object "SeaLand$Contract")) :: ((k 76), .int) :: ((k 77), .int) :: ((k 78), .int) :: ((k 79), .int) :: ((k 80), .int) :: ((k 81), .int) :: ((k 82), .int) :: ((k 83), .int) :: ((k 84), .int) :: ((k 85), .boolean) :: ((k 86), .int) :: ((k 87), .int) :: ((cm 1), .int) :: ((cm 2), .int) :: ((cm 4), .int) :: ((cm 5), .int) :: ((cm 6), .int) :: ((cm 7), .int) :: ((cm 8), .int) :: ((cm 10), .byte) :: ((cm 17), .int) :: ((cm 18), .int) :: ((cm 19), .int) :: ((cm 20), .int) :: ((cm 21), .int) :: ((cm 22), .int) :: ((cm 23), .int) :: ((cm 24), .int) :: ((cm 25), .int) :: ((cm 26), .int) :: ((cm 27), .int) :: ((cm 29), .long) :: ((cm 30), .long) :: ((cm 31), .int) :: ((cm 32), .int) :: ((cm 33), .int) :: ((cm 34), .int) :: ((cm 35), .boolean) :: ((cm 36), .boolean) :: ((cm 37), .int) :: ((cm 38), .int) :: ((cm 39), .int) :: ((cm 40), .int) :: ((cm 41), .boolean) :: ((cm 43), .int) :: ((cm 44), .int) :: ((cm 45), .int) :: ((cm 46), .int) :: ((cm 50), .long) :: ((cm 51), .boolean) :: ((cm 55), .boolean) :: ((cm 56), .int) :: ((cm 57), .int) :: ((cm 58), .int) :: ((cm 59), .int) :: ((cm 60), .int) :: ((cm 61), .int) :: ((cm 62), .boolean) :: ((cm 63), .boolean) :: ((cm 65), .int) :: ((cm 66), .int) :: ((cm 67), .int) :: ((cm 68), .int) :: ((cm 69), .int) :: ((cm 70), .int) :: ((cm 71), .int) :: ((cm 72), .int) :: ((cm 73), .int) :: ((cm 75), .int) :: ((cm 76), .int) :: (ko, .long) :: []) s) (hP : va_P (dC, dI) vwCl ((a 0, .inr (14, [.ref (a 1), .ref (a 2), .ref (a 27), .ref (a 30), .ref (a 74), .ref (a 75), .null, .int 0, .int 0])) :: (a 1, .inl ((k 1), 400, .inl (fun _ => 0))) :: (a 2, .inr (6, [.ref (a 3), .ref (a 14), .ref (a 26), .int 0, .int 0])) :: (a 3, .inr (11, [.ref (a 4), .ref (a 5), .ref (a 6), .ref (a 7), .ref (a 8), .ref (a 11), .int 0])) :: (a 4, .inl ((k 4), 12, .inl (fun _ => 0))) :: (a 5, .inl ((k 5), 20, .inl (fun _ => 0))) :: (a 6, .inl ((k 6), 20, .inl (fun _ => 0))) :: (a 7, .inl ((k 7), 20, .inl (fun _ => 0))) :: (a 8, .inr (12, [.ref (a 9), .ref (a 10), .int 0])) :: (a 9, .inl ((k 9), 60, .inl (fun _ => 0))) :: (a 10, .inl ((k 10), 60, .inl (fun _ => 0))) :: (a 11, .inr (12, [.ref (a 12), .ref (a 13), .int 0])) :: (a 12, .inl ((k 12), 60, .inl (fun _ => 0))) :: (a 13, .inl ((k 13), 60, .inl (fun _ => 0))) :: (a 14, .inr (5, [.ref (a 15), .ref (a 16), .ref (a 17), .ref (a 18), .ref (a 19), .ref (a 20), .ref (a 21), .ref (a 22), .ref (a 23), .ref (a 24), .ref (a 25), .int 0, .int 0, .int 0, .int 0])) :: (a 15, .inl ((k 15), 96, .inl (fun _ => 0))) :: (a 16, .inl ((k 16), 96, .inl (fun _ => 0))) :: (a 17, .inl ((k 17), 96, .inl (fun _ => 0))) :: (a 18, .inl ((k 18), 96, .inl (fun _ => 0))) :: (a 19, .inl ((k 19), 96, .inl (fun _ => 0))) :: (a 20, .inl ((k 20), 96, .inl (fun _ => 0))) :: (a 21, .inl ((k 21), 96, .inl (fun _ => 0))) :: (a 22, .inl ((k 22), 96, .inl (fun _ => 0))) :: (a 23, .inl ((k 23), 96, .inl (fun _ => 0))) :: (a 24, .inl ((k 24), 96, .inl (fun _ => 0))) :: (a 25, .inl ((k 25), 96, .inl (fun _ => 0))) :: (a 27, .inr (9, [.ref (a 28), .ref (a 29), .int 0, .int 0])) :: (a 28, .inl ((k 28), 2304, .inl (fun _ => 0))) :: (a 29, .inl ((k 29), 2304, .inl (fun _ => 0))) :: (a 30, .inr (3, [.ref (a 31), .ref (a 32), .ref (a 33), .ref (a 34), .ref (a 35), .ref (a 36), .ref (a 37), .ref (a 38), .ref (a 50), .ref (a 62), .int (-1), .int 0, .long 0, .long 0, .int 0, .int 0, .int 0, .int 0])) :: (a 31, .inl ((k 31), 60, .inr (.inr (.inr (.inr (fun _ => none)))))) :: (a 32, .inl ((k 32), 96, .inl (fun _ => (-1)))) :: (a 33, .inl ((k 33), 30, .inl (fun _ => 0))) :: (a 34, .inl ((k 34), 30, .inl (fun _ => 0))) :: (a 35, .inl ((k 35), 5, .inl (fun _ => 0))) :: (a 36, .inl ((k 36), 10, .inr (.inl (fun _ => 0)))) :: (a 37, .inl ((k 37), 60, .inl (fun _ => 0))) :: (a 38, .inr (7, [.ref (a 39), .ref (a 40), .ref (a 41), .ref (a 42), .ref (a 43), .ref (a 44), .ref (a 45), .ref (a 46), .ref (a 47), .ref (a 48), .ref (a 49), .int 0, .int 0, .int 0])) :: (a 39, .inl ((k 39), 401, .inl (fun _ => 0))) :: (a 40, .inl ((k 40), 401, .inl (fun _ => 0))) :: (a 41, .inl ((k 41), 20, .inl (fun _ => 0))) :: (a 42, .inl ((k 42), 20, .inl (fun _ => 0))) :: (a 43, .inl ((k 43), 20, .inl (fun _ => 0))) :: (a 44, .inl ((k 44), 20, .inl (fun _ => 0))) :: (a 45, .inl ((k 45), 20, .inl (fun _ => 0))) :: (a 46, .inl ((k 46), 20, .inl (fun _ => 0))) :: (a 47, .inl ((k 47), 20, .inl (fun _ => 0))) :: (a 48, .inl ((k 48), 400, .inl (fun _ => 0))) :: (a 49, .inl ((k 49), 20, .inr (.inl (fun _ => 0)))) :: (a 50, .inr (7, [.ref (a 51), .ref (a 52), .ref (a 53), .ref (a 54), .ref (a 55), .ref (a 56), .ref (a 57), .ref (a 58), .ref (a 59), .ref (a 60), .ref (a 61), .int 0, .int 0, .int 0])) :: (a 51, .inl ((k 51), 401, .inl (fun _ => 0))) :: (a 52, .inl ((k 52), 401, .inl (fun _ => 0))) :: (a 53, .inl ((k 53), 20, .inl (fun _ => 0))) :: (a 54, .inl ((k 54), 20, .inl (fun _ => 0))) :: (a 55, .inl ((k 55), 20, .inl (fun _ => 0))) :: (a 56, .inl ((k 56), 20, .inl (fun _ => 0))) :: (a 57, .inl ((k 57), 20, .inl (fun _ => 0))) :: (a 58, .inl ((k 58), 20, .inl (fun _ => 0))) :: (a 59, .inl ((k 59), 20, .inl (fun _ => 0))) :: (a 60, .inl ((k 60), 400, .inl (fun _ => 0))) :: (a 61, .inl ((k 61), 20, .inr (.inl (fun _ => 0)))) :: (a 62, .inr (7, [.ref (a 63), .ref (a 64), .ref (a 65), .ref (a 66), .ref (a 67), .ref (a 68), .ref (a 69), .ref (a 70), .ref (a 71), .ref (a 72), .ref (a 73), .int 0, .int 0, .int 0])) :: (a 63, .inl ((k 63), 401, .inl (fun _ => 0))) :: (a 64, .inl ((k 64), 401, .inl (fun _ => 0))) :: (a 65, .inl ((k 65), 20, .inl (fun _ => 0))) :: (a 66, .inl ((k 66), 20, .inl (fun _ => 0))) :: (a 67, .inl ((k 67), 20, .inl (fun _ => 0))) :: (a 68, .inl ((k 68), 20, .inl (fun _ => 0))) :: (a 69, .inl ((k 69), 20, .inl (fun _ => 0))) :: (a 70, .inl ((k 70), 20, .inl (fun _ => 0))) :: (a 71, .inl ((k 71), 20, .inl (fun _ => 0))) :: (a 72, .inl ((k 72), 400, .inl (fun _ => 0))) :: (a 73, .inl ((k 73), 20, .inr (.inl (fun _ => 0)))) :: (a 74, .inl ((k 74), 40, .inr (.inr (.inr (.inr (fun _ => none)))))) :: (a 75, .inr (8, [.ref (a 76), .ref (a 77), .ref (a 78), .ref (a 79), .ref (a 80), .ref (a 81), .ref (a 82), .ref (a 83), .ref (a 84), .ref (a 85), .ref (a 86), .ref (a 87), .int 0, .int 0, .int 0, .int 0, .int 0])) :: (a 76, .inl ((k 76), 6, .inl (fun _ => 0))) :: (a 77, .inl ((k 77), 121, .inl (fun _ => 0))) :: (a 78, .inl ((k 78), 121, .inl (fun _ => 0))) :: (a 79, .inl ((k 79), 6, .inl (fun _ => 0))) :: (a 80, .inl ((k 80), 6, .inl (fun _ => 0))) :: (a 81, .inl ((k 81), 7, .inl (fun _ => 0))) :: (a 82, .inl ((k 82), 7, .inl (fun _ => 0))) :: (a 83, .inl ((k 83), 7, .inl (fun _ => 0))) :: (a 84, .inl ((k 84), 7, .inl (fun _ => 0))) :: (a 85, .inl ((k 85), 7, .inl (fun _ => 0))) :: (a 86, .inl ((k 86), 7, .inl (fun _ => 0))) :: (a 87, .inl ((k 87), 7, .inl (fun _ => 0))) :: (h0, .inr (15, mF q 0)) :: (q 1, .inl ((cm 1), 1749, .inl (fun _ => 0))) :: (q 2, .inl ((cm 2), 1749, .inl (fun _ => 0))) :: (q 4, .inl ((cm 4), 96, .inl (fun _ => 0))) :: (q 5, .inl ((cm 5), 96, .inl (fun _ => 0))) :: (q 6, .inl ((cm 6), 96, .inl (fun _ => 0))) :: (q 7, .inl ((cm 7), 2304, .inl (fun _ => 0))) :: (q 8, .inl ((cm 8), 2304, .inl (fun _ => 0))) :: (q 10, .inl ((cm 10), 400, .inl (fun _ => 0))) :: (q 17, .inl ((cm 17), 5, .inl (fun _ => 0))) :: (q 18, .inl ((cm 18), 3, .inl (fun _ => 0))) :: (q 19, .inl ((cm 19), 60, .inl (fun _ => 0))) :: (q 20, .inl ((cm 20), 60, .inl (fun _ => 0))) :: (q 21, .inl ((cm 21), 60, .inl (fun _ => 0))) :: (q 22, .inl ((cm 22), 60, .inl (fun _ => 0))) :: (q 23, .inl ((cm 23), 60, .inl (fun _ => 0))) :: (q 24, .inl ((cm 24), 60, .inl (fun _ => 0))) :: (q 25, .inl ((cm 25), 60, .inl (fun _ => 0))) :: (q 26, .inl ((cm 26), 1200, .inl (fun _ => 0))) :: (q 27, .inl ((cm 27), 1200, .inl (fun _ => 0))) :: (q 29, .inl ((cm 29), 400, .inr (.inl (fun _ => 0)))) :: (q 30, .inl ((cm 30), 10, .inr (.inl (fun _ => 0)))) :: (q 31, .inl ((cm 31), 60, .inl (fun _ => 0))) :: (q 32, .inl ((cm 32), 60, .inl (fun _ => 0))) :: (q 33, .inl ((cm 33), 60, .inl (fun _ => 0))) :: (q 34, .inl ((cm 34), 60, .inl (fun _ => 0))) :: (q 35, .inl ((cm 35), 60, .inl (fun _ => 0))) :: (q 36, .inl ((cm 36), 60, .inl (fun _ => 0))) :: (q 37, .inl ((cm 37), 60, .inl (fun _ => 0))) :: (q 38, .inl ((cm 38), 60, .inl (fun _ => 0))) :: (q 39, .inl ((cm 39), 60, .inl (fun _ => 0))) :: (q 40, .inl ((cm 40), 60, .inl (fun _ => 0))) :: (q 41, .inl ((cm 41), 60, .inl (fun _ => 0))) :: (q 43, .inl ((cm 43), 30, .inl (fun _ => 0))) :: (q 44, .inl ((cm 44), 30, .inl (fun _ => 0))) :: (q 45, .inl ((cm 45), 30, .inl (fun _ => 0))) :: (q 46, .inl ((cm 46), 30, .inl (fun _ => 0))) :: (q 50, .inl ((cm 50), 60, .inr (.inl (fun _ => 0)))) :: (q 51, .inl ((cm 51), 60, .inl (fun _ => 0))) :: (q 55, .inl ((cm 55), 60, .inl (fun _ => 0))) :: (q 56, .inl ((cm 56), 40, .inl (fun _ => 0))) :: (q 57, .inl ((cm 57), 40, .inl (fun _ => 0))) :: (q 58, .inl ((cm 58), 40, .inl (fun _ => 0))) :: (q 59, .inl ((cm 59), 40, .inl (fun _ => 0))) :: (q 60, .inl ((cm 60), 40, .inl (fun _ => 0))) :: (q 61, .inl ((cm 61), 40, .inl (fun _ => 0))) :: (q 62, .inl ((cm 62), 40, .inl (fun _ => 0))) :: (q 63, .inl ((cm 63), 40, .inl (fun _ => 0))) :: (q 65, .inl ((cm 65), 1001, .inl (fun _ => 0))) :: (q 66, .inl ((cm 66), 1001, .inl (fun _ => 0))) :: (q 67, .inl ((cm 67), 5, .inl (fun _ => 0))) :: (q 68, .inl ((cm 68), 6, .inl (fun _ => 0))) :: (q 69, .inl ((cm 69), 6, .inl (fun _ => 0))) :: (q 70, .inl ((cm 70), 7, .inl (fun _ => 0))) :: (q 71, .inl ((cm 71), 7, .inl (fun _ => 0))) :: (q 72, .inl ((cm 72), 7, .inl (fun _ => 0))) :: (q 73, .inl ((cm 73), 7, .inl (fun _ => 0))) :: (q 75, .inl ((cm 75), 7, .inl (fun _ => 0))) :: (q 76, .inl ((cm 76), 7, .inl (fun _ => 0))) :: (o0, .inl (ko, 1, .inr (.inl (fun _ => 0)))) :: []) H) (hD : va_D A ((a 0, .inr (14, [.ref (a 1), .ref (a 2), .ref (a 27), .ref (a 30), .ref (a 74), .ref (a 75), .null, .int 0, .int 0])) :: (a 1, .inl ((k 1), 400, .inl (fun _ => 0))) :: (a 2, .inr (6, [.ref (a 3), .ref (a 14), .ref (a 26), .int 0, .int 0])) :: (a 3, .inr (11, [.ref (a 4), .ref (a 5), .ref (a 6), .ref (a 7), .ref (a 8), .ref (a 11), .int 0])) :: (a 4, .inl ((k 4), 12, .inl (fun _ => 0))) :: (a 5, .inl ((k 5), 20, .inl (fun _ => 0))) :: (a 6, .inl ((k 6), 20, .inl (fun _ => 0))) :: (a 7, .inl ((k 7), 20, .inl (fun _ => 0))) :: (a 8, .inr (12, [.ref (a 9), .ref (a 10), .int 0])) :: (a 9, .inl ((k 9), 60, .inl (fun _ => 0))) :: (a 10, .inl ((k 10), 60, .inl (fun _ => 0))) :: (a 11, .inr (12, [.ref (a 12), .ref (a 13), .int 0])) :: (a 12, .inl ((k 12), 60, .inl (fun _ => 0))) :: (a 13, .inl ((k 13), 60, .inl (fun _ => 0))) :: (a 14, .inr (5, [.ref (a 15), .ref (a 16), .ref (a 17), .ref (a 18), .ref (a 19), .ref (a 20), .ref (a 21), .ref (a 22), .ref (a 23), .ref (a 24), .ref (a 25), .int 0, .int 0, .int 0, .int 0])) :: (a 15, .inl ((k 15), 96, .inl (fun _ => 0))) :: (a 16, .inl ((k 16), 96, .inl (fun _ => 0))) :: (a 17, .inl ((k 17), 96, .inl (fun _ => 0))) :: (a 18, .inl ((k 18), 96, .inl (fun _ => 0))) :: (a 19, .inl ((k 19), 96, .inl (fun _ => 0))) :: (a 20, .inl ((k 20), 96, .inl (fun _ => 0))) :: (a 21, .inl ((k 21), 96, .inl (fun _ => 0))) :: (a 22, .inl ((k 22), 96, .inl (fun _ => 0))) :: (a 23, .inl ((k 23), 96, .inl (fun _ => 0))) :: (a 24, .inl ((k 24), 96, .inl (fun _ => 0))) :: (a 25, .inl ((k 25), 96, .inl (fun _ => 0))) :: (a 27, .inr (9, [.ref (a 28), .ref (a 29), .int 0, .int 0])) :: (a 28, .inl ((k 28), 2304, .inl (fun _ => 0))) :: (a 29, .inl ((k 29), 2304, .inl (fun _ => 0))) :: (a 30, .inr (3, [.ref (a 31), .ref (a 32), .ref (a 33), .ref (a 34), .ref (a 35), .ref (a 36), .ref (a 37), .ref (a 38), .ref (a 50), .ref (a 62), .int (-1), .int 0, .long 0, .long 0, .int 0, .int 0, .int 0, .int 0])) :: (a 31, .inl ((k 31), 60, .inr (.inr (.inr (.inr (fun _ => none)))))) :: (a 32, .inl ((k 32), 96, .inl (fun _ => (-1)))) :: (a 33, .inl ((k 33), 30, .inl (fun _ => 0))) :: (a 34, .inl ((k 34), 30, .inl (fun _ => 0))) :: (a 35, .inl ((k 35), 5, .inl (fun _ => 0))) :: (a 36, .inl ((k 36), 10, .inr (.inl (fun _ => 0)))) :: (a 37, .inl ((k 37), 60, .inl (fun _ => 0))) :: (a 38, .inr (7, [.ref (a 39), .ref (a 40), .ref (a 41), .ref (a 42), .ref (a 43), .ref (a 44), .ref (a 45), .ref (a 46), .ref (a 47), .ref (a 48), .ref (a 49), .int 0, .int 0, .int 0])) :: (a 39, .inl ((k 39), 401, .inl (fun _ => 0))) :: (a 40, .inl ((k 40), 401, .inl (fun _ => 0))) :: (a 41, .inl ((k 41), 20, .inl (fun _ => 0))) :: (a 42, .inl ((k 42), 20, .inl (fun _ => 0))) :: (a 43, .inl ((k 43), 20, .inl (fun _ => 0))) :: (a 44, .inl ((k 44), 20, .inl (fun _ => 0))) :: (a 45, .inl ((k 45), 20, .inl (fun _ => 0))) :: (a 46, .inl ((k 46), 20, .inl (fun _ => 0))) :: (a 47, .inl ((k 47), 20, .inl (fun _ => 0))) :: (a 48, .inl ((k 48), 400, .inl (fun _ => 0))) :: (a 49, .inl ((k 49), 20, .inr (.inl (fun _ => 0)))) :: (a 50, .inr (7, [.ref (a 51), .ref (a 52), .ref (a 53), .ref (a 54), .ref (a 55), .ref (a 56), .ref (a 57), .ref (a 58), .ref (a 59), .ref (a 60), .ref (a 61), .int 0, .int 0, .int 0])) :: (a 51, .inl ((k 51), 401, .inl (fun _ => 0))) :: (a 52, .inl ((k 52), 401, .inl (fun _ => 0))) :: (a 53, .inl ((k 53), 20, .inl (fun _ => 0))) :: (a 54, .inl ((k 54), 20, .inl (fun _ => 0))) :: (a 55, .inl ((k 55), 20, .inl (fun _ => 0))) :: (a 56, .inl ((k 56), 20, .inl (fun _ => 0))) :: (a 57, .inl ((k 57), 20, .inl (fun _ => 0))) :: (a 58, .inl ((k 58), 20, .inl (fun _ => 0))) :: (a 59, .inl ((k 59), 20, .inl (fun _ => 0))) :: (a 60, .inl ((k 60), 400, .inl (fun _ => 0))) :: (a 61, .inl ((k 61), 20, .inr (.inl (fun _ => 0)))) :: (a 62, .inr (7, [.ref (a 63), .ref (a 64), .ref (a 65), .ref (a 66), .ref (a 67), .ref (a 68), .ref (a 69), .ref (a 70), .ref (a 71), .ref (a 72), .ref (a 73), .int 0, .int 0, .int 0])) :: (a 63, .inl ((k 63), 401, .inl (fun _ => 0))) :: (a 64, .inl ((k 64), 401, .inl (fun _ => 0))) :: (a 65, .inl ((k 65), 20, .inl (fun _ => 0))) :: (a 66, .inl ((k 66), 20, .inl (fun _ => 0))) :: (a 67, .inl ((k 67), 20, .inl (fun _ => 0))) :: (a 68, .inl ((k 68), 20, .inl (fun _ => 0))) :: (a 69, .inl ((k 69), 20, .inl (fun _ => 0))) :: (a 70, .inl ((k 70), 20, .inl (fun _ => 0))) :: (a 71, .inl ((k 71), 20, .inl (fun _ => 0))) :: (a 72, .inl ((k 72), 400, .inl (fun _ => 0))) :: (a 73, .inl ((k 73), 20, .inr (.inl (fun _ => 0)))) :: (a 74, .inl ((k 74), 40, .inr (.inr (.inr (.inr (fun _ => none)))))) :: (a 75, .inr (8, [.ref (a 76), .ref (a 77), .ref (a 78), .ref (a 79), .ref (a 80), .ref (a 81), .ref (a 82), .ref (a 83), .ref (a 84), .ref (a 85), .ref (a 86), .ref (a 87), .int 0, .int 0, .int 0, .int 0, .int 0])) :: (a 76, .inl ((k 76), 6, .inl (fun _ => 0))) :: (a 77, .inl ((k 77), 121, .inl (fun _ => 0))) :: (a 78, .inl ((k 78), 121, .inl (fun _ => 0))) :: (a 79, .inl ((k 79), 6, .inl (fun _ => 0))) :: (a 80, .inl ((k 80), 6, .inl (fun _ => 0))) :: (a 81, .inl ((k 81), 7, .inl (fun _ => 0))) :: (a 82, .inl ((k 82), 7, .inl (fun _ => 0))) :: (a 83, .inl ((k 83), 7, .inl (fun _ => 0))) :: (a 84, .inl ((k 84), 7, .inl (fun _ => 0))) :: (a 85, .inl ((k 85), 7, .inl (fun _ => 0))) :: (a 86, .inl ((k 86), 7, .inl (fun _ => 0))) :: (a 87, .inl ((k 87), 7, .inl (fun _ => 0))) :: (h0, .inr (15, mF q 0)) :: (q 1, .inl ((cm 1), 1749, .inl (fun _ => 0))) :: (q 2, .inl ((cm 2), 1749, .inl (fun _ => 0))) :: (q 4, .inl ((cm 4), 96, .inl (fun _ => 0))) :: (q 5, .inl ((cm 5), 96, .inl (fun _ => 0))) :: (q 6, .inl ((cm 6), 96, .inl (fun _ => 0))) :: (q 7, .inl ((cm 7), 2304, .inl (fun _ => 0))) :: (q 8, .inl ((cm 8), 2304, .inl (fun _ => 0))) :: (q 10, .inl ((cm 10), 400, .inl (fun _ => 0))) :: (q 17, .inl ((cm 17), 5, .inl (fun _ => 0))) :: (q 18, .inl ((cm 18), 3, .inl (fun _ => 0))) :: (q 19, .inl ((cm 19), 60, .inl (fun _ => 0))) :: (q 20, .inl ((cm 20), 60, .inl (fun _ => 0))) :: (q 21, .inl ((cm 21), 60, .inl (fun _ => 0))) :: (q 22, .inl ((cm 22), 60, .inl (fun _ => 0))) :: (q 23, .inl ((cm 23), 60, .inl (fun _ => 0))) :: (q 24, .inl ((cm 24), 60, .inl (fun _ => 0))) :: (q 25, .inl ((cm 25), 60, .inl (fun _ => 0))) :: (q 26, .inl ((cm 26), 1200, .inl (fun _ => 0))) :: (q 27, .inl ((cm 27), 1200, .inl (fun _ => 0))) :: (q 29, .inl ((cm 29), 400, .inr (.inl (fun _ => 0)))) :: (q 30, .inl ((cm 30), 10, .inr (.inl (fun _ => 0)))) :: (q 31, .inl ((cm 31), 60, .inl (fun _ => 0))) :: (q 32, .inl ((cm 32), 60, .inl (fun _ => 0))) :: (q 33, .inl ((cm 33), 60, .inl (fun _ => 0))) :: (q 34, .inl ((cm 34), 60, .inl (fun _ => 0))) :: (q 35, .inl ((cm 35), 60, .inl (fun _ => 0))) :: (q 36, .inl ((cm 36), 60, .inl (fun _ => 0))) :: (q 37, .inl ((cm 37), 60, .inl (fun _ => 0))) :: (q 38, .inl ((cm 38), 60, .inl (fun _ => 0))) :: (q 39, .inl ((cm 39), 60, .inl (fun _ => 0))) :: (q 40, .inl ((cm 40), 60, .inl (fun _ => 0))) :: (q 41, .inl ((cm 41), 60, .inl (fun _ => 0))) :: (q 43, .inl ((cm 43), 30, .inl (fun _ => 0))) :: (q 44, .inl ((cm 44), 30, .inl (fun _ => 0))) :: (q 45, .inl ((cm 45), 30, .inl (fun _ => 0))) :: (q 46, .inl ((cm 46), 30, .inl (fun _ => 0))) :: (q 50, .inl ((cm 50), 60, .inr (.inl (fun _ => 0)))) :: (q 51, .inl ((cm 51), 60, .inl (fun _ => 0))) :: (q 55, .inl ((cm 55), 60, .inl (fun _ => 0))) :: (q 56, .inl ((cm 56), 40, .inl (fun _ => 0))) :: (q 57, .inl ((cm 57), 40, .inl (fun _ => 0))) :: (q 58, .inl ((cm 58), 40, .inl (fun _ => 0))) :: (q 59, .inl ((cm 59), 40, .inl (fun _ => 0))) :: (q 60, .inl ((cm 60), 40, .inl (fun _ => 0))) :: (q 61, .inl ((cm 61), 40, .inl (fun _ => 0))) :: (q 62, .inl ((cm 62), 40, .inl (fun _ => 0))) :: (q 63, .inl ((cm 63), 40, .inl (fun _ => 0))) :: (q 65, .inl ((cm 65), 1001, .inl (fun _ => 0))) :: (q 66, .inl ((cm 66), 1001, .inl (fun _ => 0))) :: (q 67, .inl ((cm 67), 5, .inl (fun _ => 0))) :: (q 68, .inl ((cm 68), 6, .inl (fun _ => 0))) :: (q 69, .inl ((cm 69), 6, .inl (fun _ => 0))) :: (q 70, .inl ((cm 70), 7, .inl (fun _ => 0))) :: (q 71, .inl ((cm 71), 7, .inl (fun _ => 0))) :: (q 72, .inl ((cm 72), 7, .inl (fun _ => 0))) :: (q 73, .inl ((cm 73), 7, .inl (fun _ => 0))) :: (q 75, .inl ((cm 75), 7, .inl (fun _ => 0))) :: (q 76, .inl ((cm 76), 7, .inl (fun _ => 0))) :: (o0, .inl (ko, 1, .inr (.inl (fun _ => 0)))) :: [])) (hS : va_S A s.heap H locs) (ls : Array Slot) (hl : lv_has ls 7 [(0, .ref b), (1, .ref (a 0)), (2, .ref h0), (3, .ref o0), (4, .int 0)]) : W p l e room_1 s m #[Value.ref b] below meth c H locs 238 27427 (lw_Z below #[Value.ref b] s) (F0 m 23 ls []) := by
  refine lv_iload hx hb dL_law_23 (lv_at hl 4 rfl) ?_
  refine lv_aload_n hx hb dL_law_25 rfl (lv_at hl 0 rfl) ?_
  refine va_slen hx hb hX hbl hbA hS dL_law_26 ?_
  refine lv_topi (fun x1 ex1 => ?_)
  obtain rfl : x1 = 8 := ex1.trans (by decide)
  refine lv_bipush (v := 8) hx hb dL_law_27 (by decide) ?_
  refine lv_isub hx hb dL_law_29 ?_
  refine lv_topi (fun x2 ex2 => ?_)
  obtain rfl : x2 = 0 := ex2.trans (by decide)
  refine lv_icmp_gt (tgt := 3768) hx hb dL_law_30 (by decide) (fun c3 => absurd c3 (by decide)) (fun c3 => ?_)
  refine lv_aload_n hx hb dL_law_33 rfl (lv_at hl 0 rfl) ?_
  refine lv_iload hx hb dL_law_34 (lv_at hl 4 rfl) ?_
  refine va_sld hx hb hX hbl hbA hS (i := 0) (by unfold vp_in; decide) dL_law_36 ?_
  refine lv_topi (fun x4 ex4 => ?_)
  obtain rfl : xs 0 = x4 := (ex4).symm
  refine lv_bipush (v := 63) hx hb dL_law_37 (by decide) ?_
  refine lv_iand hx hb dL_law_39 ?_
  refine lv_topi (fun x5 ex5 => ?_)
  by_cases hs6 : x5 = 0
  · subst hs6
    refine lv_tableIn (x := 0) (off := 232) (tgt := 272) hx hb dL_law_40 (by decide) (by decide) (by decide) (by decide) ?_
    exact law_0 l hlt hx hb hr hml hown (fun w h => hts w (wm_0 w h)) hX hbl hbA hlocks hE hN hA hAi a k h0 q cm o0 ko H locs (hK.sub [0, 133, 82, 83] rfl) (hP.sub [0, 1, 146, 87, 95, 96] rfl) (hD.sub [0, 1, 146, 87, 95, 96] (by decide) rfl) hS ls (lv_sub hl [0, 1, 2, 3, 4] rfl)
  by_cases hs7 : x5 = 1
  · subst hs7
    refine lv_tableIn (x := 1) (off := 305) (tgt := 345) hx hb dL_law_40 (by decide) (by decide) (by decide) (by decide) ?_
    exact law_1 l hlt hx hb hr hml hown (fun w h => hts w (wm_1 w h)) hX hbl hbA hlocks hE hN hA hAi a k h0 q cm o0 ko H locs (hK.sub [133] rfl) (hP.sub [0, 146, 87] rfl) (hD.sub [0, 146, 87] (by decide) rfl) hS ls (lv_sub hl [0, 1, 2, 3, 4] rfl)
  by_cases hs8 : x5 = 2
  · subst hs8
    refine lv_tableIn (x := 2) (off := 330) (tgt := 370) hx hb dL_law_40 (by decide) (by decide) (by decide) (by decide) ?_
    exact law_2 l hlt hx hb hr hml hown (fun w h => hts w (wm_2 w h)) hX hbl hbA hlocks hE hN hA hAi a k h0 q cm o0 ko H locs (hK.sub [9, 10, 11, 12, 13, 14, 133, 75] rfl) (hP.sub [0, 2, 26, 14, 15, 16, 17, 18, 19, 20, 146, 87, 88] rfl) (hD.sub [0, 2, 26, 14, 15, 16, 17, 18, 19, 20, 146, 87, 88] (by decide) rfl) hS ls (lv_sub hl [0, 1, 2, 3, 4] rfl)
  by_cases hs9 : x5 = 3
  · subst hs9
    refine lv_tableIn (x := 3) (off := 434) (tgt := 474) hx hb dL_law_40 (by decide) (by decide) (by decide) (by decide) ?_
    exact law_3 l hlt hx hb hr hml hown (fun w h => hts w (wm_3 w h)) hX hbl hbA hlocks hE hN hA hAi a k h0 q cm o0 ko H locs (hK.sub [9, 133, 75] rfl) (hP.sub [0, 2, 14, 15, 146, 87, 88] rfl) (hD.sub [0, 2, 14, 15, 146, 87, 88] (by decide) rfl) hS ls (lv_sub hl [0, 1, 2, 3, 4] rfl)
  by_cases hs10 : x5 = 4
  · subst hs10
    refine lv_tableIn (x := 4) (off := 521) (tgt := 561) hx hb dL_law_40 (by decide) (by decide) (by decide) (by decide) ?_
    exact law_4 l hlt hx hb hr hml hown (fun w h => hts w (wm_4 w h)) hX hbl hbA hlocks hE hN hA hAi a k h0 q cm o0 ko H locs (hK.sub [1, 133, 75] rfl) (hP.sub [0, 2, 3, 4, 26, 146, 87, 88] rfl) (hD.sub [0, 2, 3, 4, 26, 146, 87, 88] (by decide) rfl) hS ls (lv_sub hl [0, 1, 2, 3, 4] rfl)
  by_cases hs11 : x5 = 5
  · subst hs11
    refine lv_tableIn (x := 5) (off := 569) (tgt := 609) hx hb dL_law_40 (by decide) (by decide) (by decide) (by decide) ?_
    exact law_5 l hlt hx hb hr hml hown (fun w h => hts w (wm_5 w h)) hX hbl hbA hlocks hE hN hA hAi a k h0 q cm o0 ko H locs (hK.sub [2, 3, 4, 133, 75] rfl) (hP.sub [0, 2, 3, 5, 6, 7, 26, 146, 87, 88] rfl) (hD.sub [0, 2, 3, 5, 6, 7, 26, 146, 87, 88] (by decide) rfl) hS ls (lv_sub hl [0, 1, 2, 3, 4] rfl)
  by_cases hs12 : x5 = 6
  · subst hs12
    refine lv_tableIn (x := 6) (off := 649) (tgt := 689) hx hb dL_law_40 (by decide) (by decide) (by decide) (by decide) ?_
    exact law_6 l hlt hx hb hr hml hown (fun w h => hts w (wm_6 w h)) hX hbl hbA hlocks hE hN hA hAi a k h0 q cm o0 ko H locs (hK.sub [5, 6, 7, 8, 133, 75] rfl) (hP.sub [0, 2, 3, 26, 8, 9, 10, 11, 12, 13, 146, 87, 88] rfl) (hD.sub [0, 2, 3, 26, 8, 9, 10, 11, 12, 13, 146, 87, 88] (by decide) rfl) hS ls (lv_sub hl [0, 1, 2, 3, 4] rfl)
  by_cases hs13 : x5 = 7
  · subst hs13
    refine lv_tableIn (x := 7) (off := 745) (tgt := 785) hx hb dL_law_40 (by decide) (by decide) (by decide) (by decide) ?_
    exact law_7 l hlt hx hb hr hml hown (fun w h => hts w (wm_7 w h)) hX hbl hbA hlocks hE hN hA hAi a k h0 q cm o0 ko H locs (hK.sub [1, 133, 75] rfl) (hP.sub [0, 2, 3, 4, 8, 11, 146, 87, 88] rfl) (hD.sub [0, 2, 3, 4, 8, 11, 146, 87, 88] (by decide) rfl) hS ls (lv_sub hl [0, 1, 2, 3, 4] rfl)
  by_cases hs14 : x5 = 8
  · subst hs14
    refine lv_tableIn (x := 8) (off := 813) (tgt := 853) hx hb dL_law_40 (by decide) (by decide) (by decide) (by decide) ?_
    exact law_8 l hlt hx hb hr hml hown (fun w h => hts w (wm_8 w h)) hX hbl hbA hlocks hE hN hA hAi a k h0 q cm o0 ko H locs (hK.sub [9, 133, 75] rfl) (hP.sub [0, 2, 14, 15, 146, 87, 88] rfl) (hD.sub [0, 2, 14, 15, 146, 87, 88] (by decide) rfl) hS ls (lv_sub hl [0, 1, 2, 3, 4] rfl)
  by_cases hs15 : x5 = 9
  · subst hs15
    refine lv_tableIn (x := 9) (off := 905) (tgt := 945) hx hb dL_law_40 (by decide) (by decide) (by decide) (by decide) ?_
    exact law_9 l hlt hx hb hr hml hown (fun w h => hts w (wm_9 w h)) hX hbl hbA hlocks hE hN hA hAi a k h0 q cm o0 ko H locs (hK.sub [133, 75] rfl) (hP.sub [0, 2, 146, 87, 88] rfl) (hD.sub [0, 2, 146, 87, 88] (by decide) rfl) hS ls (lv_sub hl [0, 1, 2, 3, 4] rfl)
  by_cases hs16 : x5 = 10
  · subst hs16
    refine lv_tableIn (x := 10) (off := 985) (tgt := 1025) hx hb dL_law_40 (by decide) (by decide) (by decide) (by decide) ?_
    exact law_10 l hlt hx hb hr hml hown (fun w h => hts w (wm_10 w h)) hX hbl hbA hlocks hE hN hA hAi a k h0 q cm o0 ko H locs (hK.sub [9, 133, 75] rfl) (hP.sub [0, 2, 14, 15, 146, 87, 88] rfl) (hD.sub [0, 2, 14, 15, 146, 87, 88] (by decide) rfl) hS ls (lv_sub hl [0, 1, 2, 3, 4] rfl)
  by_cases hs17 : x5 = 11
  · subst hs17
    refine lv_tableIn (x := 11) (off := 1093) (tgt := 1133) hx hb dL_law_40 (by decide) (by decide) (by decide) (by decide) ?_
    exact law_11 l hlt hx hb hr hml hown (fun w h => hts w (wm_11 w h)) hX hbl hbA hlocks hE hN hA hAi a k h0 q cm o0 ko H locs (hK.sub [9, 133, 75] rfl) (hP.sub [0, 2, 14, 15, 146, 87, 88] rfl) (hD.sub [0, 2, 14, 15, 146, 87, 88] (by decide) rfl) hS ls (lv_sub hl [0, 1, 2, 3, 4] rfl)
  by_cases hs18 : x5 = 12
  · subst hs18
    refine lv_tableIn (x := 12) (off := 1173) (tgt := 1213) hx hb dL_law_40 (by decide) (by decide) (by decide) (by decide) ?_
    exact law_12 l hlt hx hb hr hml hown (fun w h => hts w (wm_12 w h)) hX hbl hbA hlocks hE hN hA hAi a k h0 q cm o0 ko H locs (hK.sub [133, 75] rfl) (hP.sub [0, 2, 146, 87, 88] rfl) (hD.sub [0, 2, 146, 87, 88] (by decide) rfl) hS ls (lv_sub hl [0, 1, 2, 3, 4] rfl)
  by_cases hs19 : x5 = 13
  · subst hs19
    refine lv_tableIn (x := 13) (off := 1264) (tgt := 1304) hx hb dL_law_40 (by decide) (by decide) (by decide) (by decide) ?_
    exact law_13 l hlt hx hb hr hml hown (fun w h => hts w (wm_13 w h)) hX hbl hbA hlocks hE hN hA hAi a k h0 q cm o0 ko H locs (hK.sub [133, 75] rfl) (hP.sub [0, 2, 146, 87, 88] rfl) (hD.sub [0, 2, 146, 87, 88] (by decide) rfl) hS ls (lv_sub hl [0, 1, 2, 3, 4] rfl)
  by_cases hs20 : x5 = 14
  · subst hs20
    refine lv_tableIn (x := 14) (off := 1332) (tgt := 1372) hx hb dL_law_40 (by decide) (by decide) (by decide) (by decide) ?_
    exact law_14 l hlt hx hb hr hml hown (fun w h => hts w (wm_14 w h)) hX hbl hbA hlocks hE hN hA hAi a k h0 q cm o0 ko H locs (hK.sub [133, 75] rfl) (hP.sub [0, 2, 146, 87, 88] rfl) (hD.sub [0, 2, 146, 87, 88] (by decide) rfl) hS ls (lv_sub hl [0, 1, 2, 3, 4] rfl)
  by_cases hs21 : x5 = 15
  · subst hs21
    refine lv_tableIn (x := 15) (off := 1400) (tgt := 1440) hx hb dL_law_40 (by decide) (by decide) (by decide) (by decide) ?_
    exact law_15 l hlt hx hb hr hml hown (fun w h => hts w (wm_15 w h)) hX hbl hbA hlocks hE hN hA hAi a k h0 q cm o0 ko H locs (hK.sub [133, 75] rfl) (hP.sub [0, 2, 146, 87, 88] rfl) (hD.sub [0, 2, 146, 87, 88] (by decide) rfl) hS ls (lv_sub hl [0, 1, 2, 3, 4] rfl)
  by_cases hs22 : x5 = 16
  · subst hs22
    refine lv_tableIn (x := 16) (off := 1468) (tgt := 1508) hx hb dL_law_40 (by decide) (by decide) (by decide) (by decide) ?_
    exact law_16 l hlt hx hb hr hml hown (fun w h => hts w (wm_16 w h)) hX hbl hbA hlocks hE hN hA hAi a k h0 q cm o0 ko H locs (hK.sub [133, 75] rfl) (hP.sub [0, 2, 146, 87, 88] rfl) (hD.sub [0, 2, 146, 87, 88] (by decide) rfl) hS ls (lv_sub hl [0, 1, 2, 3, 4] rfl)
  by_cases hs23 : x5 = 17
  · subst hs23
    refine lv_tableIn (x := 17) (off := 1531) (tgt := 1571) hx hb dL_law_40 (by decide) (by decide) (by decide) (by decide) ?_
    exact law_17 l hlt hx hb hr hml hown (fun w h => hts w (wm_17 w h)) hX hbl hbA hlocks hE hN hA hAi a k h0 q cm o0 ko H locs (hK.sub [1, 9, 12, 17, 20, 21, 133, 75, 77, 80, 81] rfl) (hP.sub [0, 2, 3, 4, 8, 11, 14, 15, 18, 23, 26, 27, 28, 146, 87, 88, 90, 93, 94] rfl) (hD.sub [0, 2, 3, 4, 8, 11, 14, 15, 18, 23, 26, 27, 28, 146, 87, 88, 90, 93, 94] (by decide) rfl) hS ls (lv_sub hl [0, 1, 2, 3, 4] rfl)
  by_cases hs24 : x5 = 18
  · subst hs24
    refine lv_tableIn (x := 18) (off := 1587) (tgt := 1627) hx hb dL_law_40 (by decide) (by decide) (by decide) (by decide) ?_
    exact law_18 l hlt hx hb hr hml hown (fun w h => hts w (wm_18 w h)) hX hbl hbA hlocks hE hN hA hAi a k h0 q cm o0 ko H locs (hK.sub [9, 10, 11, 12, 13, 14, 15, 16, 1, 23, 133, 75] rfl) (hP.sub [0, 2, 14, 15, 16, 17, 18, 19, 20, 21, 22, 3, 4, 29, 31, 146, 87, 88] rfl) (hD.sub [0, 2, 14, 15, 16, 17, 18, 19, 20, 21, 22, 3, 4, 29, 31, 146, 87, 88] (by decide) rfl) hS ls (lv_sub hl [0, 1, 2, 3, 4] rfl)
  by_cases hs25 : x5 = 19
  · subst hs25
    refine lv_tableIn (x := 19) (off := 1655) (tgt := 1695) hx hb dL_law_40 (by decide) (by decide) (by decide) (by decide) ?_
    exact law_19 l hlt hx hb hr hml hown (fun w h => hts w (wm_19 w h)) hX hbl hbA hlocks hE hN hA hAi a k h0 q cm o0 ko H locs (hK.sub [51, 52, 0, 133, 84, 85, 86, 87, 88, 89, 90, 91, 92, 93] rfl) (hP.sub [0, 29, 61, 62, 63, 1, 146, 87, 97, 98, 99, 100, 101, 102, 103, 104, 105, 106] rfl) (hD.sub [0, 29, 61, 62, 63, 1, 146, 87, 97, 98, 99, 100, 101, 102, 103, 104, 105, 106] (by decide) rfl) hS ls (lv_sub hl [0, 1, 2, 3, 4] rfl)
  by_cases hs26 : x5 = 20
  · subst hs26
    refine lv_tableIn (x := 20) (off := 1699) (tgt := 1739) hx hb dL_law_40 (by decide) (by decide) (by decide) (by decide) ?_
    exact law_20 l hlt hx hb hr hml hown (fun w h => hts w (wm_20 w h)) hX hbl hbA hlocks hE hN hA hAi a k h0 q cm o0 ko H locs (hK.sub [51, 52, 0, 133, 84, 85, 86, 87, 88, 89, 90, 91, 92, 93, 113] rfl) (hP.sub [0, 29, 61, 62, 63, 1, 146, 87, 97, 98, 99, 100, 101, 102, 103, 104, 105, 106, 126] rfl) (hD.sub [0, 29, 61, 62, 63, 1, 146, 87, 97, 98, 99, 100, 101, 102, 103, 104, 105, 106, 126] (by decide) rfl) hS ls (lv_sub hl [0, 1, 2, 3, 4] rfl)
  by_cases hs27 : x5 = 21
  · subst hs27
    refine lv_tableIn (x := 21) (off := 1743) (tgt := 1783) hx hb dL_law_40 (by decide) (by decide) (by decide) (by decide) ?_
    exact law_21 l hlt hx hb hr hml hown (fun w h => hts w (wm_21 w h)) hX hbl hbA hlocks hE hN hA hAi a k h0 q cm o0 ko H locs (hK.sub [133] rfl) (hP.sub [0, 29, 146, 87] rfl) (hD.sub [0, 29, 146, 87] (by decide) rfl) hS ls (lv_sub hl [0, 1, 2, 3, 4] rfl)
  by_cases hs28 : x5 = 22
  · subst hs28
    refine lv_tableIn (x := 22) (off := 1756) (tgt := 1796) hx hb dL_law_40 (by decide) (by decide) (by decide) (by decide) ?_
    exact law_22 l hlt hx hb hr hml hown (fun w h => hts w (wm_22 w h)) hX hbl hbA hlocks hE hN hA hAi a k h0 q cm o0 ko H locs (hK.sub [133] rfl) (hP.sub [0, 29, 146, 87] rfl) (hD.sub [0, 29, 146, 87] (by decide) rfl) hS ls (lv_sub hl [0, 1, 2, 3, 4] rfl)
  by_cases hs29 : x5 = 23
  · subst hs29
    refine lv_tableIn (x := 23) (off := 1840) (tgt := 1880) hx hb dL_law_40 (by decide) (by decide) (by decide) (by decide) ?_
    exact law_23 l hlt hx hb hr hml hown (fun w h => hts w (wm_23 w h)) hX hbl hbA hlocks hE hN hA hAi a k h0 q cm o0 ko H locs (hK.sub [133] rfl) (hP.sub [0, 29, 146, 87] rfl) (hD.sub [0, 29, 146, 87] (by decide) rfl) hS ls (lv_sub hl [0, 1, 2, 3, 4] rfl)
  by_cases hs30 : x5 = 24
  · subst hs30
    refine lv_tableIn (x := 24) (off := 1891) (tgt := 1931) hx hb dL_law_40 (by decide) (by decide) (by decide) (by decide) ?_
    exact law_24 l hlt hx hb hr hml hown (fun w h => hts w (wm_24 w h)) hX hbl hbA hlocks hE hN hA hAi a k h0 q cm o0 ko H locs (hK.sub [133] rfl) (hP.sub [0, 29, 146, 87] rfl) (hD.sub [0, 29, 146, 87] (by decide) rfl) hS ls (lv_sub hl [0, 1, 2, 3, 4] rfl)
  by_cases hs31 : x5 = 25
  · subst hs31
    refine lv_tableIn (x := 25) (off := 1959) (tgt := 1999) hx hb dL_law_40 (by decide) (by decide) (by decide) (by decide) ?_
    exact law_25 l hlt hx hb hr hml hown (fun w h => hts w (wm_25 w h)) hX hbl hbA hlocks hE hN hA hAi a k h0 q cm o0 ko H locs (hK.sub [133] rfl) (hP.sub [0, 29, 146, 87] rfl) (hD.sub [0, 29, 146, 87] (by decide) rfl) hS ls (lv_sub hl [0, 1, 2, 3, 4] rfl)
  by_cases hs32 : x5 = 26
  · subst hs32
    refine lv_tableIn (x := 26) (off := 2027) (tgt := 2067) hx hb dL_law_40 (by decide) (by decide) (by decide) (by decide) ?_
    exact law_26 l hlt hx hb hr hml hown (fun w h => hts w (wm_26 w h)) hX hbl hbA hlocks hE hN hA hAi a k h0 q cm o0 ko H locs (hK.sub [133, 84] rfl) (hP.sub [0, 2, 29, 37, 146, 87, 97] rfl) (hD.sub [0, 2, 29, 37, 146, 87, 97] (by decide) rfl) hS ls (lv_sub hl [0, 1, 2, 3, 4] rfl)
  by_cases hs33 : x5 = 27
  · subst hs33
    refine lv_tableIn (x := 27) (off := 2083) (tgt := 2123) hx hb dL_law_40 (by decide) (by decide) (by decide) (by decide) ?_
    exact law_27 l hlt hx hb hr hml hown (fun w h => hts w (wm_27 w h)) hX hbl hbA hlocks hE hN hA hAi a k h0 q cm o0 ko H locs (hK.sub [133, 75, 84] rfl) (hP.sub [0, 2, 29, 37, 146, 87, 88, 97] rfl) (hD.sub [0, 2, 29, 37, 146, 87, 88, 97] (by decide) rfl) hS ls (lv_sub hl [0, 1, 2, 3, 4] rfl)
  by_cases hs34 : x5 = 28
  · subst hs34
    refine lv_tableIn (x := 28) (off := 2146) (tgt := 2186) hx hb dL_law_40 (by decide) (by decide) (by decide) (by decide) ?_
    exact law_28 l hlt hx hb hr hml hown (fun w h => hts w (wm_28 w h)) hX hbl hbA hlocks hE hN hA hAi a k h0 q cm o0 ko H locs (hK.sub [22, 133, 96, 97, 98, 99, 100, 101, 102, 103] rfl) (hP.sub [0, 29, 30, 146, 87, 109, 110, 111, 112, 113, 114, 115, 116] rfl) (hD.sub [0, 29, 30, 146, 87, 109, 110, 111, 112, 113, 114, 115, 116] (by decide) rfl) hS ls (lv_sub hl [0, 1, 2, 3, 4] rfl)
  by_cases hs35 : x5 = 29
  · subst hs35
    refine lv_tableIn (x := 29) (off := 2310) (tgt := 2350) hx hb dL_law_40 (by decide) (by decide) (by decide) (by decide) ?_
    exact law_29 l hlt hx hb hr hml hown (fun w h => hts w (wm_29 w h)) hX hbl hbA hlocks hE hN hA hAi a k h0 q cm o0 ko H locs (hK.sub [9, 23, 133, 75] rfl) (hP.sub [0, 29, 2, 14, 15, 31, 146, 87, 88] rfl) (hD.sub [0, 29, 2, 14, 15, 31, 146, 87, 88] (by decide) rfl) hS ls (lv_sub hl [0, 1, 2, 3, 4] rfl)
  by_cases hs36 : x5 = 30
  · subst hs36
    refine lv_tableIn (x := 30) (off := 2378) (tgt := 2418) hx hb dL_law_40 (by decide) (by decide) (by decide) (by decide) ?_
    exact law_30 l hlt hx hb hr hml hown (fun w h => hts w (wm_30 w h)) hX hbl hbA hlocks hE hN hA hAi a k h0 q cm o0 ko H locs (hK.sub [133] rfl) (hP.sub [0, 29, 146, 87] rfl) (hD.sub [0, 29, 146, 87] (by decide) rfl) hS ls (lv_sub hl [0, 1, 2, 3, 4] rfl)
  by_cases hs37 : x5 = 31
  · subst hs37
    refine lv_tableIn (x := 31) (off := 2434) (tgt := 2474) hx hb dL_law_40 (by decide) (by decide) (by decide) (by decide) ?_
    exact law_31 l hlt hx hb hr hml hown (fun w h => hts w (wm_31 w h)) hX hbl hbA hlocks hE hN hA hAi a k h0 q cm o0 ko H locs (hK.sub [133] rfl) (hP.sub [0, 29, 2, 146, 87] rfl) (hD.sub [0, 29, 2, 146, 87] (by decide) rfl) hS ls (lv_sub hl [0, 1, 2, 3, 4] rfl)
  by_cases hs38 : x5 = 32
  · subst hs38
    refine lv_tableIn (x := 32) (off := 2490) (tgt := 2530) hx hb dL_law_40 (by decide) (by decide) (by decide) (by decide) ?_
    exact law_32 l hlt hx hb hr hml hown (fun w h => hts w (wm_32 w h)) hX hbl hbA hlocks hE hN hA hAi a k h0 q cm o0 ko H locs (hK.sub [133] rfl) (hP.sub [0, 29, 146, 87] rfl) (hD.sub [0, 29, 146, 87] (by decide) rfl) hS ls (lv_sub hl [0, 1, 2, 3, 4] rfl)
  by_cases hs39 : x5 = 33
  · subst hs39
    refine lv_tableIn (x := 33) (off := 2565) (tgt := 2605) hx hb dL_law_40 (by decide) (by decide) (by decide) (by decide) ?_
    exact law_33 l hlt hx hb hr hml hown (fun w h => hts w (wm_33 w h)) hX hbl hbA hlocks hE hN hA hAi a k h0 q cm o0 ko H locs (hK.sub [133] rfl) (hP.sub [0, 29, 146, 87] rfl) (hD.sub [0, 29, 146, 87] (by decide) rfl) hS ls (lv_sub hl [0, 1, 2, 3, 4] rfl)
  by_cases hs40 : x5 = 34
  · subst hs40
    refine lv_tableIn (x := 34) (off := 2628) (tgt := 2668) hx hb dL_law_40 (by decide) (by decide) (by decide) (by decide) ?_
    exact law_34 l hlt hx hb hr hml hown (fun w h => hts w (wm_34 w h)) hX hbl hbA hlocks hE hN hA hAi a k h0 q cm o0 ko H locs (hK.sub [26, 16, 133, 75] rfl) (hP.sub [0, 29, 2, 34, 14, 22, 146, 87, 88] rfl) (hD.sub [0, 29, 2, 34, 14, 22, 146, 87, 88] (by decide) rfl) hS ls (lv_sub hl [0, 1, 2, 3, 4] rfl)
  by_cases hs41 : x5 = 35
  · subst hs41
    refine lv_tableIn (x := 35) (off := 2641) (tgt := 2681) hx hb dL_law_40 (by decide) (by decide) (by decide) (by decide) ?_
    exact law_35 l hlt hx hb hr hml hown (fun w h => hts w (wm_35 w h)) hX hbl hbA hlocks hE hN hA hAi a k h0 q cm o0 ko H locs (hK.sub [133] rfl) (hP.sub [0, 29, 146, 87] rfl) (hD.sub [0, 29, 146, 87] (by decide) rfl) hS ls (lv_sub hl [0, 1, 2, 3, 4] rfl)
  by_cases hs42 : x5 = 36
  · subst hs42
    refine lv_tableIn (x := 36) (off := 2709) (tgt := 2749) hx hb dL_law_40 (by decide) (by decide) (by decide) (by decide) ?_
    exact law_36 l hlt hx hb hr hml hown (fun w h => hts w (wm_36 w h)) hX hbl hbA hlocks hE hN hA hAi a k h0 q cm o0 ko H locs (hK.sub [133] rfl) (hP.sub [0, 29, 146, 87] rfl) (hD.sub [0, 29, 146, 87] (by decide) rfl) hS ls (lv_sub hl [0, 1, 2, 3, 4] rfl)
  by_cases hs43 : x5 = 37
  · subst hs43
    refine lv_tableIn (x := 37) (off := 2734) (tgt := 2774) hx hb dL_law_40 (by decide) (by decide) (by decide) (by decide) ?_
    exact law_37 l hlt hx hb hr hml hown (fun w h => hts w (wm_37 w h)) hX hbl hbA hlocks hE hN hA hAi a k h0 q cm o0 ko H locs (hK.sub [133] rfl) (hP.sub [0, 29, 146, 87] rfl) (hD.sub [0, 29, 146, 87] (by decide) rfl) hS ls (lv_sub hl [0, 1, 2, 3, 4] rfl)
  by_cases hs44 : x5 = 38
  · subst hs44
    refine lv_tableIn (x := 38) (off := 2790) (tgt := 2830) hx hb dL_law_40 (by decide) (by decide) (by decide) (by decide) ?_
    exact law_38 l hlt hx hb hr hml hown (fun w h => hts w (wm_38 w h)) hX hbl hbA hlocks hE hN hA hAi a k h0 q cm o0 ko H locs (hK.sub [133, 75] rfl) (hP.sub [0, 2, 146, 87, 88] rfl) (hD.sub [0, 2, 146, 87, 88] (by decide) rfl) hS ls (lv_sub hl [0, 1, 2, 3, 4] rfl)
  by_cases hs45 : x5 = 39
  · subst hs45
    refine lv_tableIn (x := 39) (off := 2882) (tgt := 2922) hx hb dL_law_40 (by decide) (by decide) (by decide) (by decide) ?_
    exact law_39 l hlt hx hb hr hml hown (fun w h => hts w (wm_39 w h)) hX hbl hbA hlocks hE hN hA hAi a k h0 q cm o0 ko H locs (hK.sub [133] rfl) (hP.sub [0, 146, 87] rfl) (hD.sub [0, 146, 87] (by decide) rfl) hS ls (lv_sub hl [0, 1, 2, 3, 4] rfl)
  by_cases hs46 : x5 = 40
  · subst hs46
    refine lv_tableIn (x := 40) (off := 2957) (tgt := 2997) hx hb dL_law_40 (by decide) (by decide) (by decide) (by decide) ?_
    exact law_40 l hlt hx hb hr hml hown (fun w h => hts w (wm_40 w h)) hX hbl hbA hlocks hE hN hA hAi a k h0 q cm o0 ko H locs (hK.sub [133] rfl) (hP.sub [0, 146, 87] rfl) (hD.sub [0, 146, 87] (by decide) rfl) hS ls (lv_sub hl [0, 1, 2, 3, 4] rfl)
  by_cases hs47 : x5 = 41
  · subst hs47
    refine lv_tableIn (x := 41) (off := 3041) (tgt := 3081) hx hb dL_law_40 (by decide) (by decide) (by decide) (by decide) ?_
    exact law_41 l hlt hx hb hr hml hown (fun w h => hts w (wm_41 w h)) hX hbl hbA hlocks hE hN hA hAi a k h0 q cm o0 ko H locs (hK.sub [133] rfl) (hP.sub [0, 146, 87] rfl) (hD.sub [0, 146, 87] (by decide) rfl) hS ls (lv_sub hl [0, 1, 2, 3, 4] rfl)
  by_cases hs48 : x5 = 42
  · subst hs48
    refine lv_tableIn (x := 42) (off := 3097) (tgt := 3137) hx hb dL_law_40 (by decide) (by decide) (by decide) (by decide) ?_
    exact law_42 l hlt hx hb hr hml hown (fun w h => hts w (wm_42 w h)) hX hbl hbA hlocks hE hN hA hAi a k h0 q cm o0 ko H locs (hK.sub [63, 64, 65, 133, 75, 122, 123] rfl) (hP.sub [0, 74, 75, 76, 77, 2, 3, 8, 146, 87, 88, 135, 136] rfl) (hD.sub [0, 74, 75, 76, 77, 2, 3, 8, 146, 87, 88, 135, 136] (by decide) rfl) hS ls (lv_sub hl [0, 1, 2, 3, 4] rfl)
  by_cases hs49 : x5 = 43
  · subst hs49
    refine lv_tableIn (x := 43) (off := 3189) (tgt := 3229) hx hb dL_law_40 (by decide) (by decide) (by decide) (by decide) ?_
    exact law_43 l hlt hx hb hr hml hown (fun w h => hts w (wm_43 w h)) hX hbl hbA hlocks hE hN hA hAi a k h0 q cm o0 ko H locs (hK.sub [133, 75] rfl) (hP.sub [0, 2, 146, 87, 88] rfl) (hD.sub [0, 2, 146, 87, 88] (by decide) rfl) hS ls (lv_sub hl [0, 1, 2, 3, 4] rfl)
  by_cases hs50 : x5 = 44
  · subst hs50
    refine lv_tableIn (x := 44) (off := 3269) (tgt := 3309) hx hb dL_law_40 (by decide) (by decide) (by decide) (by decide) ?_
    exact law_44 l hlt hx hb hr hml hown (fun w h => hts w (wm_44 w h)) hX hbl hbA hlocks hE hN hA hAi a k h0 q cm o0 ko H locs (hK.sub [133] rfl) (hP.sub [0, 29, 146, 87] rfl) (hD.sub [0, 29, 146, 87] (by decide) rfl) hS ls (lv_sub hl [0, 1, 2, 3, 4] rfl)
  by_cases hs51 : x5 = 45
  · subst hs51
    refine lv_tableIn (x := 45) (off := 3337) (tgt := 3377) hx hb dL_law_40 (by decide) (by decide) (by decide) (by decide) ?_
    exact law_45 l hlt hx hb hr hml hown (fun w h => hts w (wm_45 w h)) hX hbl hbA hlocks hE hN hA hAi a k h0 q cm o0 ko H locs (hK.sub [68, 69, 70, 71, 133, 127, 128, 129, 130] rfl) (hP.sub [0, 74, 80, 81, 82, 83, 146, 87, 140, 141, 142, 143] rfl) (hD.sub [0, 74, 80, 81, 82, 83, 146, 87, 140, 141, 142, 143] (by decide) rfl) hS ls (lv_sub hl [0, 1, 2, 3, 4] rfl)
  by_cases hs52 : x5 = 46
  · subst hs52
    refine lv_tableIn (x := 46) (off := 3429) (tgt := 3469) hx hb dL_law_40 (by decide) (by decide) (by decide) (by decide) ?_
    exact law_46 l hlt hx hb hr hml hown (fun w h => hts w (wm_46 w h)) hX hbl hbA hlocks hE hN hA hAi a k h0 q cm o0 ko H locs (hK.sub [73, 74, 133] rfl) (hP.sub [0, 74, 85, 86, 146, 87] rfl) (hD.sub [0, 74, 85, 86, 146, 87] (by decide) rfl) hS ls (lv_sub hl [0, 1, 2, 3, 4] rfl)
  by_cases hs53 : x5 = 47
  · subst hs53
    refine lv_tableIn (x := 47) (off := 3497) (tgt := 3537) hx hb dL_law_40 (by decide) (by decide) (by decide) (by decide) ?_
    exact law_47 l hlt hx hb hr hml hown (fun w h => hts w (wm_47 w h)) hX hbl hbA hlocks hE hN hA hAi a k h0 q cm o0 ko H locs (hK.sub [133] rfl) (hP.sub [0, 74, 146, 87] rfl) (hD.sub [0, 74, 146, 87] (by decide) rfl) hS ls (lv_sub hl [0, 1, 2, 3, 4] rfl)
  by_cases hs54 : x5 = 48
  · subst hs54
    refine lv_tableIn (x := 48) (off := 3510) (tgt := 3550) hx hb dL_law_40 (by decide) (by decide) (by decide) (by decide) ?_
    exact law_48 l hlt hx hb hr hml hown (fun w h => hts w (wm_48 w h)) hX hbl hbA hlocks hE hN hA hAi a k h0 q cm o0 ko H locs (hK.sub [133] rfl) (hP.sub [0, 26, 146, 87] rfl) (hD.sub [0, 26, 146, 87] (by decide) rfl) hS ls (lv_sub hl [0, 1, 2, 3, 4] rfl)
  by_cases hs55 : x5 = 49
  · subst hs55
    refine lv_tableIn (x := 49) (off := 3578) (tgt := 3618) hx hb dL_law_40 (by decide) (by decide) (by decide) (by decide) ?_
    exact law_49 l hlt hx hb hr hml hown (fun w h => hts w (wm_49 w h)) hX hbl hbA hlocks hE hN hA hAi a k h0 q cm o0 ko H locs (hK.sub [133] rfl) (hP.sub [0, 26, 146, 87] rfl) (hD.sub [0, 26, 146, 87] (by decide) rfl) hS ls (lv_sub hl [0, 1, 2, 3, 4] rfl)
  by_cases hs56 : x5 = 50
  · subst hs56
    refine lv_tableIn (x := 50) (off := 3658) (tgt := 3698) hx hb dL_law_40 (by decide) (by decide) (by decide) (by decide) ?_
    exact law_50 l hlt hx hb hr hml hown (fun w h => hts w (wm_50 w h)) hX hbl hbA hlocks hE hN hA hAi a k h0 q cm o0 ko H locs (hK.sub [133] rfl) (hP.sub [0, 26, 146, 87] rfl) (hD.sub [0, 26, 146, 87] (by decide) rfl) hS ls (lv_sub hl [0, 1, 2, 3, 4] rfl)
  by_cases hs57 : x5 = 51
  · subst hs57
    refine lv_tableIn (x := 51) (off := 3671) (tgt := 3711) hx hb dL_law_40 (by decide) (by decide) (by decide) (by decide) ?_
    exact law_51 l hlt hx hb hr hml hown (fun w h => hts w (wm_51 w h)) hX hbl hbA hlocks hE hN hA hAi a k h0 q cm o0 ko H locs (hK.sub [133, 75] rfl) (hP.sub [0, 2, 146, 87, 88] rfl) (hD.sub [0, 2, 146, 87, 88] (by decide) rfl) hS ls (lv_sub hl [0, 1, 2, 3, 4] rfl)
  by_cases hs58 : x5 = 52
  · subst hs58
    refine lv_tableIn (x := 52) (off := 3684) (tgt := 3724) hx hb dL_law_40 (by decide) (by decide) (by decide) (by decide) ?_
    exact law_52 l hlt hx hb hr hml hown (fun w h => hts w (wm_52 w h)) hX hbl hbA hlocks hE hN hA hAi a k h0 q cm o0 ko H locs (hK.sub [133] rfl) (hP.sub [0, 146, 87] rfl) (hD.sub [0, 146, 87] (by decide) rfl) hS ls (lv_sub hl [0, 1, 2, 3, 4] rfl)
  by_cases hs59 : x5 = 53
  · subst hs59
    refine lv_tableIn (x := 53) (off := 3697) (tgt := 3737) hx hb dL_law_40 (by decide) (by decide) (by decide) (by decide) ?_
    exact law_53 l hlt hx hb hr hml hown (fun w h => hts w (wm_53 w h)) hX hbl hbA hlocks hE hN hA hAi a k h0 q cm o0 ko H locs (hK.sub [13, 14, 133, 75, 84] rfl) (hP.sub [0, 2, 14, 19, 20, 26, 29, 37, 146, 87, 88, 97] rfl) (hD.sub [0, 2, 14, 19, 20, 26, 29, 37, 146, 87, 88, 97] (by decide) rfl) hS ls (lv_sub hl [0, 1, 2, 3, 4] rfl)
  have ho60 : x5.toInt < 0 ∨ 53 < x5.toInt := by
    have ehs6 : x5.toInt ≠ 0 := fun e => hs6 (Int32.toInt_inj.mp (e.trans (by decide)))
    have ehs7 : x5.toInt ≠ 1 := fun e => hs7 (Int32.toInt_inj.mp (e.trans (by decide)))
    have ehs8 : x5.toInt ≠ 2 := fun e => hs8 (Int32.toInt_inj.mp (e.trans (by decide)))
    have ehs9 : x5.toInt ≠ 3 := fun e => hs9 (Int32.toInt_inj.mp (e.trans (by decide)))
    have ehs10 : x5.toInt ≠ 4 := fun e => hs10 (Int32.toInt_inj.mp (e.trans (by decide)))
    have ehs11 : x5.toInt ≠ 5 := fun e => hs11 (Int32.toInt_inj.mp (e.trans (by decide)))
    have ehs12 : x5.toInt ≠ 6 := fun e => hs12 (Int32.toInt_inj.mp (e.trans (by decide)))
    have ehs13 : x5.toInt ≠ 7 := fun e => hs13 (Int32.toInt_inj.mp (e.trans (by decide)))
    have ehs14 : x5.toInt ≠ 8 := fun e => hs14 (Int32.toInt_inj.mp (e.trans (by decide)))
    have ehs15 : x5.toInt ≠ 9 := fun e => hs15 (Int32.toInt_inj.mp (e.trans (by decide)))
    have ehs16 : x5.toInt ≠ 10 := fun e => hs16 (Int32.toInt_inj.mp (e.trans (by decide)))
    have ehs17 : x5.toInt ≠ 11 := fun e => hs17 (Int32.toInt_inj.mp (e.trans (by decide)))
    have ehs18 : x5.toInt ≠ 12 := fun e => hs18 (Int32.toInt_inj.mp (e.trans (by decide)))
    have ehs19 : x5.toInt ≠ 13 := fun e => hs19 (Int32.toInt_inj.mp (e.trans (by decide)))
    have ehs20 : x5.toInt ≠ 14 := fun e => hs20 (Int32.toInt_inj.mp (e.trans (by decide)))
    have ehs21 : x5.toInt ≠ 15 := fun e => hs21 (Int32.toInt_inj.mp (e.trans (by decide)))
    have ehs22 : x5.toInt ≠ 16 := fun e => hs22 (Int32.toInt_inj.mp (e.trans (by decide)))
    have ehs23 : x5.toInt ≠ 17 := fun e => hs23 (Int32.toInt_inj.mp (e.trans (by decide)))
    have ehs24 : x5.toInt ≠ 18 := fun e => hs24 (Int32.toInt_inj.mp (e.trans (by decide)))
    have ehs25 : x5.toInt ≠ 19 := fun e => hs25 (Int32.toInt_inj.mp (e.trans (by decide)))
    have ehs26 : x5.toInt ≠ 20 := fun e => hs26 (Int32.toInt_inj.mp (e.trans (by decide)))
    have ehs27 : x5.toInt ≠ 21 := fun e => hs27 (Int32.toInt_inj.mp (e.trans (by decide)))
    have ehs28 : x5.toInt ≠ 22 := fun e => hs28 (Int32.toInt_inj.mp (e.trans (by decide)))
    have ehs29 : x5.toInt ≠ 23 := fun e => hs29 (Int32.toInt_inj.mp (e.trans (by decide)))
    have ehs30 : x5.toInt ≠ 24 := fun e => hs30 (Int32.toInt_inj.mp (e.trans (by decide)))
    have ehs31 : x5.toInt ≠ 25 := fun e => hs31 (Int32.toInt_inj.mp (e.trans (by decide)))
    have ehs32 : x5.toInt ≠ 26 := fun e => hs32 (Int32.toInt_inj.mp (e.trans (by decide)))
    have ehs33 : x5.toInt ≠ 27 := fun e => hs33 (Int32.toInt_inj.mp (e.trans (by decide)))
    have ehs34 : x5.toInt ≠ 28 := fun e => hs34 (Int32.toInt_inj.mp (e.trans (by decide)))
    have ehs35 : x5.toInt ≠ 29 := fun e => hs35 (Int32.toInt_inj.mp (e.trans (by decide)))
    have ehs36 : x5.toInt ≠ 30 := fun e => hs36 (Int32.toInt_inj.mp (e.trans (by decide)))
    have ehs37 : x5.toInt ≠ 31 := fun e => hs37 (Int32.toInt_inj.mp (e.trans (by decide)))
    have ehs38 : x5.toInt ≠ 32 := fun e => hs38 (Int32.toInt_inj.mp (e.trans (by decide)))
    have ehs39 : x5.toInt ≠ 33 := fun e => hs39 (Int32.toInt_inj.mp (e.trans (by decide)))
    have ehs40 : x5.toInt ≠ 34 := fun e => hs40 (Int32.toInt_inj.mp (e.trans (by decide)))
    have ehs41 : x5.toInt ≠ 35 := fun e => hs41 (Int32.toInt_inj.mp (e.trans (by decide)))
    have ehs42 : x5.toInt ≠ 36 := fun e => hs42 (Int32.toInt_inj.mp (e.trans (by decide)))
    have ehs43 : x5.toInt ≠ 37 := fun e => hs43 (Int32.toInt_inj.mp (e.trans (by decide)))
    have ehs44 : x5.toInt ≠ 38 := fun e => hs44 (Int32.toInt_inj.mp (e.trans (by decide)))
    have ehs45 : x5.toInt ≠ 39 := fun e => hs45 (Int32.toInt_inj.mp (e.trans (by decide)))
    have ehs46 : x5.toInt ≠ 40 := fun e => hs46 (Int32.toInt_inj.mp (e.trans (by decide)))
    have ehs47 : x5.toInt ≠ 41 := fun e => hs47 (Int32.toInt_inj.mp (e.trans (by decide)))
    have ehs48 : x5.toInt ≠ 42 := fun e => hs48 (Int32.toInt_inj.mp (e.trans (by decide)))
    have ehs49 : x5.toInt ≠ 43 := fun e => hs49 (Int32.toInt_inj.mp (e.trans (by decide)))
    have ehs50 : x5.toInt ≠ 44 := fun e => hs50 (Int32.toInt_inj.mp (e.trans (by decide)))
    have ehs51 : x5.toInt ≠ 45 := fun e => hs51 (Int32.toInt_inj.mp (e.trans (by decide)))
    have ehs52 : x5.toInt ≠ 46 := fun e => hs52 (Int32.toInt_inj.mp (e.trans (by decide)))
    have ehs53 : x5.toInt ≠ 47 := fun e => hs53 (Int32.toInt_inj.mp (e.trans (by decide)))
    have ehs54 : x5.toInt ≠ 48 := fun e => hs54 (Int32.toInt_inj.mp (e.trans (by decide)))
    have ehs55 : x5.toInt ≠ 49 := fun e => hs55 (Int32.toInt_inj.mp (e.trans (by decide)))
    have ehs56 : x5.toInt ≠ 50 := fun e => hs56 (Int32.toInt_inj.mp (e.trans (by decide)))
    have ehs57 : x5.toInt ≠ 51 := fun e => hs57 (Int32.toInt_inj.mp (e.trans (by decide)))
    have ehs58 : x5.toInt ≠ 52 := fun e => hs58 (Int32.toInt_inj.mp (e.trans (by decide)))
    have ehs59 : x5.toInt ≠ 53 := fun e => hs59 (Int32.toInt_inj.mp (e.trans (by decide)))
    omega
  refine lv_tableOut (tgt := 3762) hx hb dL_law_40 ho60 (by decide) ?_
  exact law_tail hx hb hr hlocks hX hbl hbA hAi hS (Nat.le_of_ble_eq_true rfl) (Nat.le_of_ble_eq_true rfl) ls (lv_sub hl [0, 4] rfl)
