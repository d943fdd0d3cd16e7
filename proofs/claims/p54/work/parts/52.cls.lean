def gV : gT → Value → Prop := fun _ v => ∃ r : Option Nat, v = va_rf r
def shl_c : List gS := (.inr (0, 0, ga gJ) :: .inr (0, 0, ga gJ) :: .inr (0, 0, ga gJ) :: .inr (0, 0, ga gJ) :: .inl (4, 8, gl [gI 0 29, gI (-2147483648) 2147483647, gI (-2147483648) 2147483647, gI (-2147483648) 2147483647, gI 0 1, gI (-2147483648) 2147483647, gI (-2147483648) 2147483647, gI 0 1]) :: .inl (5, 15, gl [gR 25, gR 26, gR 27, gR 28, gR 29, gR 30, gR 31, gR 32, gR 33, gR 34, gR 35, gI (-2147483648) 2147483647, gI (-2147483648) 2147483647, gI (-2147483648) 2147483647, gI (-2147483648) 2147483647]) :: .inl (6, 5, gl [gR 11, gR 5, gR 18, gI 0 30, gI 0 40000]) :: .inl (7, 14, gl [gR 40, gR 41, gR 42, gR 43, gR 44, gR 45, gR 46, gR 47, gR 48, gR 49, gR 50, gI 0 20, gI 0 400, gI 0 400]) :: .inl (8, 17, gl [gR 58, gR 59, gR 60, gR 61, gR 62, gR 63, gR 64, gR 65, gR 66, gR 67, gR 68, gR 69, gI 0 5, gI 0 6, gI (-2147483648) 2147483647, gI 0 7, gI (-2147483648) 2147483647]) :: .inl (9, 4, gl [gR 38, gR 39, gI 0 24, gI 0 23]) :: .inl (10, 12, gl [gI (-2147483648) 2147483647, gI (-2147483648) 2147483647, gI (-2147483648) 2147483647, gI 0 1, gI 0 1, gI (-2147483648) 2147483647, gI (-2147483648) 2147483647, gI (-1) 29, gI (-2147483648) 2147483647, gI (-2147483648) 2147483647, gI 0 1, gI 0 1]) :: .inl (11, 7, gl [gR 19, gR 20, gR 21, gR 22, gR 12, gR 12, gI 0 20]) :: .inl (12, 3, gl [gR 23, gR 24, gI 0 60]) :: .inl (13, 12, gl [gR 36, gR 37, gI (-2147483648) 2147483647, gI 0 95, gI 0 95, gI (-2147483648) 2147483647, gI (-2147483648) 2147483647, gI 0 6, gI (-2147483648) 2147483647, gI 0 1, gI (-2147483648) 2147483647, gI (-2147483648) 2147483647]) :: .inr (0, 0, ga gJ) :: .inr (0, 0, ga gJ) :: .inr (0, 400, ga (gI 0 255)) :: .inr (0, 0, ga gJ) :: .inr (6, 30, ga (gR 13)) :: .inr (0, 12, ga (gI (-2147483648) 2147483647)) :: .inr (0, 20, ga (gI (-2147483648) 2147483647)) :: .inr (0, 20, ga (gI (-2147483648) 2147483647)) :: .inr (0, 20, ga (gI (-2147483648) 2147483647)) :: .inr (0, 60, ga (gI (-2147483648) 2147483647)) :: .inr (0, 60, ga (gI (-2147483648) 2147483647)) :: .inr (1, 96, ga (gI 0 1)) :: .inr (0, 96, ga (gI (-2147483648) 2147483647)) :: .inr (0, 96, ga (gI (-2147483648) 2147483647)) :: .inr (0, 96, ga (gI (-2147483648) 2147483647)) :: .inr (0, 96, ga (gI (-2147483648) 2147483647)) :: .inr (0, 96, ga (gI (-2147483648) 2147483647)) :: .inr (0, 96, ga (gI (-2147483648) 2147483647)) :: .inr (0, 96, ga (gI (-2147483648) 2147483647)) :: .inr (0, 96, ga (gI (-1) 95)) :: .inr (0, 96, ga (gI (-2147483648) 2147483647)) :: .inr (0, 96, ga (gI (-2147483648) 2147483647)) :: .inr (0, 6, ga (gI (-2147483648) 2147483647)) :: .inr (0, 6, ga (gI (-2147483648) 2147483647)) :: .inr (0, 2304, ga (gI (-2147483648) 2147483647)) :: .inr (0, 2304, ga (gI (-2147483648) 2147483647)) :: .inr (0, 401, ga (gI 0 2147483647)) :: .inr (0, 401, ga (gI (-2147483648) 2147483647)) :: .inr (0, 20, ga (gI (-2147483648) 2147483647)) :: .inr (0, 20, ga (gI (-2147483648) 2147483647)) :: .inr (0, 20, ga (gI (-2147483648) 2147483647)) :: .inr (0, 20, ga (gI (-2147483648) 2147483647)) :: .inr (0, 20, ga (gI (-2147483648) 2147483647)) :: .inr (0, 20, ga (gI 0 400)) :: .inr (0, 20, ga (gI 0 400)) :: .inr (0, 400, ga (gI 0 2147483647)) :: .inr (2, 20, ga gJ) :: .inr (0, 0, ga gJ) :: .inr (0, 96, ga (gI (-2147483648) 2147483647)) :: .inr (0, 30, ga (gI (-2147483648) 2147483647)) :: .inr (1, 30, ga (gI 0 1)) :: .inr (1, 5, ga (gI 0 1)) :: .inr (2, 10, ga gJ) :: .inr (0, 60, ga (gI (-2147483648) 2147483647)) :: .inr (0, 6, ga (gI (-2147483648) 2147483647)) :: .inr (0, 121, ga (gI (-2147483648) 2147483647)) :: .inr (0, 121, ga (gI (-2147483648) 2147483647)) :: .inr (0, 6, ga (gI 0 95)) :: .inr (0, 6, ga (gI (-2147483648) 2147483647)) :: .inr (0, 7, ga (gI (-2147483648) 2147483647)) :: .inr (0, 7, ga (gI (-2147483648) 2147483647)) :: .inr (0, 7, ga (gI (-2147483648) 2147483647)) :: .inr (0, 7, ga (gI (-2147483648) 2147483647)) :: .inr (1, 7, ga (gI 0 1)) :: .inr (0, 7, ga (gI 0 6)) :: .inr (0, 7, ga (gI (-2147483648) 2147483647)) :: .inr (6, 30, ga (gR 94)) :: .inr (0, 12, ga (gI (-2147483648) 2147483647)) :: .inr (0, 20, ga (gI (-2147483648) 2147483647)) :: .inr (0, 20, ga (gI (-2147483648) 2147483647)) :: .inr (0, 20, ga (gI (-2147483648) 2147483647)) :: .inr (0, 60, ga (gI (-2147483648) 2147483647)) :: .inr (0, 60, ga (gI (-2147483648) 2147483647)) :: .inr (1, 96, ga (gI 0 1)) :: .inr (0, 96, ga (gI (-2147483648) 2147483647)) :: .inr (0, 96, ga (gI (-2147483648) 2147483647)) :: .inr (0, 96, ga (gI (-2147483648) 2147483647)) :: .inr (0, 96, ga (gI (-2147483648) 2147483647)) :: .inr (0, 96, ga (gI (-2147483648) 2147483647)) :: .inr (0, 96, ga (gI (-2147483648) 2147483647)) :: .inr (0, 96, ga (gI (-2147483648) 2147483647)) :: .inr (0, 96, ga (gI (-1) 95)) :: .inr (0, 96, ga (gI (-2147483648) 2147483647)) :: .inr (0, 96, ga (gI (-2147483648) 2147483647)) :: .inr (0, 6, ga (gI (-2147483648) 2147483647)) :: .inr (0, 6, ga (gI (-2147483648) 2147483647)) :: .inl (6, 5, gl [gR 91, gR 93, gR 70, gI 0 30, gI 0 40000]) :: .inl (11, 7, gl [gR 71, gR 72, gR 73, gR 74, gR 92, gR 92, gI 0 20]) :: .inl (12, 3, gl [gR 75, gR 76, gI 0 60]) :: .inl (5, 15, gl [gR 77, gR 78, gR 79, gR 80, gR 81, gR 82, gR 83, gR 84, gR 85, gR 86, gR 87, gI (-2147483648) 2147483647, gI (-2147483648) 2147483647, gI (-2147483648) 2147483647, gI (-2147483648) 2147483647]) :: .inl (13, 12, gl [gR 88, gR 89, gI (-2147483648) 2147483647, gI 0 95, gI 0 95, gI (-2147483648) 2147483647, gI (-2147483648) 2147483647, gI 0 6, gI (-2147483648) 2147483647, gI 0 1, gI (-2147483648) 2147483647, gI (-2147483648) 2147483647]) :: .inr (0, 0, ga gJ) :: .inr (0, 0, ga gJ) :: .inr (0, 0, ga gJ) :: .inr (2, 1, ga gJ) :: .inr (6, 30, ga (gN 13)) :: .inr (0, 0, ga gJ) :: .inr (0, 0, ga gJ) :: .inr (0, 0, ga gJ) :: .inl (3, 18, gl [gN 51, gN 52, gN 53, gN 54, gN 55, gN 56, gN 57, gN 7, gN 7, gN 7, gI (-2147483648) 2147483647, gI 0 1, gJ, gJ, gI 0 0, gI (-2147483648) 2147483647, gI 0 30, gI (-2147483648) 2147483647]) :: .inl (4, 8, gl [gI 0 29, gI (-2147483648) 2147483647, gI (-2147483648) 2147483647, gI (-2147483648) 2147483647, gI 0 1, gI (-2147483648) 2147483647, gI (-2147483648) 2147483647, gI 0 1]) :: .inl (5, 15, gl [gN 25, gN 26, gN 27, gN 28, gN 29, gN 30, gN 31, gN 32, gN 33, gN 34, gN 35, gI (-2147483648) 2147483647, gI (-2147483648) 2147483647, gI (-2147483648) 2147483647, gI (-2147483648) 2147483647]) :: .inl (6, 5, gl [gN 11, gN 5, gV, gI 0 30, gI 0 40000]) :: .inl (7, 14, gl [gN 40, gN 41, gN 42, gN 43, gN 44, gN 45, gN 46, gN 47, gN 48, gN 49, gN 50, gI 0 20, gI 0 400, gI 0 400]) :: .inl (8, 17, gl [gN 58, gN 59, gN 60, gN 61, gN 62, gN 63, gN 64, gN 65, gN 66, gN 67, gN 68, gN 69, gI 0 5, gI 0 6, gI (-2147483648) 2147483647, gI 0 7, gI (-2147483648) 2147483647]) :: .inl (9, 4, gl [gN 38, gN 39, gI 0 24, gI 0 23]) :: .inl (10, 12, gl [gI (-2147483648) 2147483647, gI (-2147483648) 2147483647, gI (-2147483648) 2147483647, gI 0 1, gI 0 1, gI (-2147483648) 2147483647, gI (-2147483648) 2147483647, gI (-1) 29, gI (-2147483648) 2147483647, gI (-2147483648) 2147483647, gI 0 1, gI 0 1]) :: .inl (11, 7, gl [gN 19, gN 20, gN 21, gN 22, gN 12, gN 12, gI 0 20]) :: .inl (12, 3, gl [gN 23, gN 24, gI 0 60]) :: .inl (13, 12, gl [gN 36, gN 37, gI (-2147483648) 2147483647, gI 0 95, gI 0 95, gI (-2147483648) 2147483647, gI (-2147483648) 2147483647, gI 0 6, gI (-2147483648) 2147483647, gI 0 1, gI (-2147483648) 2147483647, gI (-2147483648) 2147483647]) :: .inl (14, 9, gl [gN 16, gN 6, gN 9, gN 3, gN 17, gN 8, gN 90, gI 0 400, gI 0 0]) :: .inr (0, 0, ga gJ) :: .inr (0, 0, ga gJ) :: .inr (0, 0, ga gJ) :: .inr (0, 0, ga gJ) :: .inr (0, 0, ga gJ) :: .inl (6, 5, gl [gN 91, gN 93, gV, gI 0 30, gI 0 40000]) :: .inl (11, 7, gl [gN 71, gN 72, gN 73, gN 74, gN 92, gN 92, gI 0 20]) :: .inl (12, 3, gl [gN 75, gN 76, gI 0 60]) :: .inl (5, 15, gl [gN 77, gN 78, gN 79, gN 80, gN 81, gN 82, gN 83, gN 84, gN 85, gN 86, gN 87, gI (-2147483648) 2147483647, gI (-2147483648) 2147483647, gI (-2147483648) 2147483647, gI (-2147483648) 2147483647]) :: .inl (13, 12, gl [gN 88, gN 89, gI (-2147483648) 2147483647, gI 0 95, gI 0 95, gI (-2147483648) 2147483647, gI (-2147483648) 2147483647, gI 0 6, gI (-2147483648) 2147483647, gI 0 1, gI (-2147483648) 2147483647, gI (-2147483648) 2147483647]) :: .inr (6, 30, ga (gN 94)) :: [])
def SHc (nC nS : Int) : Nat → gS := fun t => if t = 3 then .inl (3, 18, gl [gR 51, gR 52, gR 53, gR 54, gR 55, gR 56, gR 57, gR 7, gR 7, gR 7, gI (-2147483648) 2147483647, gI 0 1, gJ, gJ, gI nS nS, gI (-2147483648) 2147483647, gI 0 30, gI (-2147483648) 2147483647]) else if t = 14 then .inl (14, 9, gl [gR 16, gR 6, gR 9, gR 3, gR 17, gR 8, gN 90, gI 0 400, gI nC nC]) else if t = 17 then .inr (5, 40, gnb nC 4) else if t = 51 then .inr (4, 60, gnb nS 10) else shl_c.getD t (.inr (0, 0, ga gJ))
def SKc : Nat → gS := SHc 0 0
theorem shc_3 {nC nS : Int} : SHc nC nS 3 = .inl (3, 18, gl [gR 51, gR 52, gR 53, gR 54, gR 55, gR 56, gR 57, gR 7, gR 7, gR 7, gI (-2147483648) 2147483647, gI 0 1, gJ, gJ, gI nS nS, gI (-2147483648) 2147483647, gI 0 30, gI (-2147483648) 2147483647]) := rfl
theorem skc_3 : SKc 3 = .inl (3, 18, gl [gR 51, gR 52, gR 53, gR 54, gR 55, gR 56, gR 57, gR 7, gR 7, gR 7, gI (-2147483648) 2147483647, gI 0 1, gJ, gJ, gI 0 0, gI (-2147483648) 2147483647, gI 0 30, gI (-2147483648) 2147483647]) := rfl
theorem shc_4 {nC nS : Int} : SHc nC nS 4 = .inl (4, 8, gl [gI 0 29, gI (-2147483648) 2147483647, gI (-2147483648) 2147483647, gI (-2147483648) 2147483647, gI 0 1, gI (-2147483648) 2147483647, gI (-2147483648) 2147483647, gI 0 1]) := rfl
theorem skc_4 : SKc 4 = .inl (4, 8, gl [gI 0 29, gI (-2147483648) 2147483647, gI (-2147483648) 2147483647, gI (-2147483648) 2147483647, gI 0 1, gI (-2147483648) 2147483647, gI (-2147483648) 2147483647, gI 0 1]) := rfl
theorem shc_5 {nC nS : Int} : SHc nC nS 5 = .inl (5, 15, gl [gR 25, gR 26, gR 27, gR 28, gR 29, gR 30, gR 31, gR 32, gR 33, gR 34, gR 35, gI (-2147483648) 2147483647, gI (-2147483648) 2147483647, gI (-2147483648) 2147483647, gI (-2147483648) 2147483647]) := rfl
theorem skc_5 : SKc 5 = .inl (5, 15, gl [gR 25, gR 26, gR 27, gR 28, gR 29, gR 30, gR 31, gR 32, gR 33, gR 34, gR 35, gI (-2147483648) 2147483647, gI (-2147483648) 2147483647, gI (-2147483648) 2147483647, gI (-2147483648) 2147483647]) := rfl
theorem shc_6 {nC nS : Int} : SHc nC nS 6 = .inl (6, 5, gl [gR 11, gR 5, gR 18, gI 0 30, gI 0 40000]) := rfl
theorem skc_6 : SKc 6 = .inl (6, 5, gl [gR 11, gR 5, gR 18, gI 0 30, gI 0 40000]) := rfl
theorem shc_7 {nC nS : Int} : SHc nC nS 7 = .inl (7, 14, gl [gR 40, gR 41, gR 42, gR 43, gR 44, gR 45, gR 46, gR 47, gR 48, gR 49, gR 50, gI 0 20, gI 0 400, gI 0 400]) := rfl
theorem skc_7 : SKc 7 = .inl (7, 14, gl [gR 40, gR 41, gR 42, gR 43, gR 44, gR 45, gR 46, gR 47, gR 48, gR 49, gR 50, gI 0 20, gI 0 400, gI 0 400]) := rfl
theorem shc_8 {nC nS : Int} : SHc nC nS 8 = .inl (8, 17, gl [gR 58, gR 59, gR 60, gR 61, gR 62, gR 63, gR 64, gR 65, gR 66, gR 67, gR 68, gR 69, gI 0 5, gI 0 6, gI (-2147483648) 2147483647, gI 0 7, gI (-2147483648) 2147483647]) := rfl
theorem skc_8 : SKc 8 = .inl (8, 17, gl [gR 58, gR 59, gR 60, gR 61, gR 62, gR 63, gR 64, gR 65, gR 66, gR 67, gR 68, gR 69, gI 0 5, gI 0 6, gI (-2147483648) 2147483647, gI 0 7, gI (-2147483648) 2147483647]) := rfl
theorem shc_9 {nC nS : Int} : SHc nC nS 9 = .inl (9, 4, gl [gR 38, gR 39, gI 0 24, gI 0 23]) := rfl
theorem skc_9 : SKc 9 = .inl (9, 4, gl [gR 38, gR 39, gI 0 24, gI 0 23]) := rfl
theorem shc_10 {nC nS : Int} : SHc nC nS 10 = .inl (10, 12, gl [gI (-2147483648) 2147483647, gI (-2147483648) 2147483647, gI (-2147483648) 2147483647, gI 0 1, gI 0 1, gI (-2147483648) 2147483647, gI (-2147483648) 2147483647, gI (-1) 29, gI (-2147483648) 2147483647, gI (-2147483648) 2147483647, gI 0 1, gI 0 1]) := rfl
theorem skc_10 : SKc 10 = .inl (10, 12, gl [gI (-2147483648) 2147483647, gI (-2147483648) 2147483647, gI (-2147483648) 2147483647, gI 0 1, gI 0 1, gI (-2147483648) 2147483647, gI (-2147483648) 2147483647, gI (-1) 29, gI (-2147483648) 2147483647, gI (-2147483648) 2147483647, gI 0 1, gI 0 1]) := rfl
theorem shc_11 {nC nS : Int} : SHc nC nS 11 = .inl (11, 7, gl [gR 19, gR 20, gR 21, gR 22, gR 12, gR 12, gI 0 20]) := rfl
theorem skc_11 : SKc 11 = .inl (11, 7, gl [gR 19, gR 20, gR 21, gR 22, gR 12, gR 12, gI 0 20]) := rfl
theorem shc_12 {nC nS : Int} : SHc nC nS 12 = .inl (12, 3, gl [gR 23, gR 24, gI 0 60]) := rfl
theorem skc_12 : SKc 12 = .inl (12, 3, gl [gR 23, gR 24, gI 0 60]) := rfl
theorem shc_13 {nC nS : Int} : SHc nC nS 13 = .inl (13, 12, gl [gR 36, gR 37, gI (-2147483648) 2147483647, gI 0 95, gI 0 95, gI (-2147483648) 2147483647, gI (-2147483648) 2147483647, gI 0 6, gI (-2147483648) 2147483647, gI 0 1, gI (-2147483648) 2147483647, gI (-2147483648) 2147483647]) := rfl
theorem skc_13 : SKc 13 = .inl (13, 12, gl [gR 36, gR 37, gI (-2147483648) 2147483647, gI 0 95, gI 0 95, gI (-2147483648) 2147483647, gI (-2147483648) 2147483647, gI 0 6, gI (-2147483648) 2147483647, gI 0 1, gI (-2147483648) 2147483647, gI (-2147483648) 2147483647]) := rfl
theorem shc_14 {nC nS : Int} : SHc nC nS 14 = .inl (14, 9, gl [gR 16, gR 6, gR 9, gR 3, gR 17, gR 8, gN 90, gI 0 400, gI nC nC]) := rfl
theorem skc_14 : SKc 14 = .inl (14, 9, gl [gR 16, gR 6, gR 9, gR 3, gR 17, gR 8, gN 90, gI 0 400, gI 0 0]) := rfl
theorem shc_90 {nC nS : Int} : SHc nC nS 90 = .inl (6, 5, gl [gR 91, gR 93, gR 70, gI 0 30, gI 0 40000]) := rfl
theorem skc_90 : SKc 90 = .inl (6, 5, gl [gR 91, gR 93, gR 70, gI 0 30, gI 0 40000]) := rfl
theorem shc_91 {nC nS : Int} : SHc nC nS 91 = .inl (11, 7, gl [gR 71, gR 72, gR 73, gR 74, gR 92, gR 92, gI 0 20]) := rfl
theorem skc_91 : SKc 91 = .inl (11, 7, gl [gR 71, gR 72, gR 73, gR 74, gR 92, gR 92, gI 0 20]) := rfl
theorem shc_92 {nC nS : Int} : SHc nC nS 92 = .inl (12, 3, gl [gR 75, gR 76, gI 0 60]) := rfl
theorem skc_92 : SKc 92 = .inl (12, 3, gl [gR 75, gR 76, gI 0 60]) := rfl
theorem shc_93 {nC nS : Int} : SHc nC nS 93 = .inl (5, 15, gl [gR 77, gR 78, gR 79, gR 80, gR 81, gR 82, gR 83, gR 84, gR 85, gR 86, gR 87, gI (-2147483648) 2147483647, gI (-2147483648) 2147483647, gI (-2147483648) 2147483647, gI (-2147483648) 2147483647]) := rfl
theorem skc_93 : SKc 93 = .inl (5, 15, gl [gR 77, gR 78, gR 79, gR 80, gR 81, gR 82, gR 83, gR 84, gR 85, gR 86, gR 87, gI (-2147483648) 2147483647, gI (-2147483648) 2147483647, gI (-2147483648) 2147483647, gI (-2147483648) 2147483647]) := rfl
theorem shc_94 {nC nS : Int} : SHc nC nS 94 = .inl (13, 12, gl [gR 88, gR 89, gI (-2147483648) 2147483647, gI 0 95, gI 0 95, gI (-2147483648) 2147483647, gI (-2147483648) 2147483647, gI 0 6, gI (-2147483648) 2147483647, gI 0 1, gI (-2147483648) 2147483647, gI (-2147483648) 2147483647]) := rfl
theorem skc_94 : SKc 94 = .inl (13, 12, gl [gR 88, gR 89, gI (-2147483648) 2147483647, gI 0 95, gI 0 95, gI (-2147483648) 2147483647, gI (-2147483648) 2147483647, gI 0 6, gI (-2147483648) 2147483647, gI 0 1, gI (-2147483648) 2147483647, gI (-2147483648) 2147483647]) := rfl
theorem shc_16 {nC nS : Int} : SHc nC nS 16 = .inr (0, 400, ga (gI 0 255)) := rfl
theorem skc_16 : SKc 16 = .inr (0, 400, ga (gI 0 255)) := rfl
theorem shc_17 {nC nS : Int} : SHc nC nS 17 = .inr (5, 40, gnb nC 4) := rfl
theorem skc_17 : SKc 17 = .inr (5, 40, gnb 0 4) := rfl
theorem shc_18 {nC nS : Int} : SHc nC nS 18 = .inr (6, 30, ga (gR 13)) := rfl
theorem skc_18 : SKc 18 = .inr (6, 30, ga (gR 13)) := rfl
theorem shc_19 {nC nS : Int} : SHc nC nS 19 = .inr (0, 12, ga (gI (-2147483648) 2147483647)) := rfl
theorem skc_19 : SKc 19 = .inr (0, 12, ga (gI (-2147483648) 2147483647)) := rfl
theorem shc_20 {nC nS : Int} : SHc nC nS 20 = .inr (0, 20, ga (gI (-2147483648) 2147483647)) := rfl
theorem skc_20 : SKc 20 = .inr (0, 20, ga (gI (-2147483648) 2147483647)) := rfl
theorem shc_21 {nC nS : Int} : SHc nC nS 21 = .inr (0, 20, ga (gI (-2147483648) 2147483647)) := rfl
theorem skc_21 : SKc 21 = .inr (0, 20, ga (gI (-2147483648) 2147483647)) := rfl
theorem shc_22 {nC nS : Int} : SHc nC nS 22 = .inr (0, 20, ga (gI (-2147483648) 2147483647)) := rfl
theorem skc_22 : SKc 22 = .inr (0, 20, ga (gI (-2147483648) 2147483647)) := rfl
theorem shc_23 {nC nS : Int} : SHc nC nS 23 = .inr (0, 60, ga (gI (-2147483648) 2147483647)) := rfl
theorem skc_23 : SKc 23 = .inr (0, 60, ga (gI (-2147483648) 2147483647)) := rfl
theorem shc_24 {nC nS : Int} : SHc nC nS 24 = .inr (0, 60, ga (gI (-2147483648) 2147483647)) := rfl
theorem skc_24 : SKc 24 = .inr (0, 60, ga (gI (-2147483648) 2147483647)) := rfl
theorem shc_25 {nC nS : Int} : SHc nC nS 25 = .inr (1, 96, ga (gI 0 1)) := rfl
theorem skc_25 : SKc 25 = .inr (1, 96, ga (gI 0 1)) := rfl
theorem shc_26 {nC nS : Int} : SHc nC nS 26 = .inr (0, 96, ga (gI (-2147483648) 2147483647)) := rfl
theorem skc_26 : SKc 26 = .inr (0, 96, ga (gI (-2147483648) 2147483647)) := rfl
theorem shc_27 {nC nS : Int} : SHc nC nS 27 = .inr (0, 96, ga (gI (-2147483648) 2147483647)) := rfl
theorem skc_27 : SKc 27 = .inr (0, 96, ga (gI (-2147483648) 2147483647)) := rfl
theorem shc_28 {nC nS : Int} : SHc nC nS 28 = .inr (0, 96, ga (gI (-2147483648) 2147483647)) := rfl
theorem skc_28 : SKc 28 = .inr (0, 96, ga (gI (-2147483648) 2147483647)) := rfl
theorem shc_29 {nC nS : Int} : SHc nC nS 29 = .inr (0, 96, ga (gI (-2147483648) 2147483647)) := rfl
theorem skc_29 : SKc 29 = .inr (0, 96, ga (gI (-2147483648) 2147483647)) := rfl
theorem shc_30 {nC nS : Int} : SHc nC nS 30 = .inr (0, 96, ga (gI (-2147483648) 2147483647)) := rfl
theorem skc_30 : SKc 30 = .inr (0, 96, ga (gI (-2147483648) 2147483647)) := rfl
theorem shc_31 {nC nS : Int} : SHc nC nS 31 = .inr (0, 96, ga (gI (-2147483648) 2147483647)) := rfl
theorem skc_31 : SKc 31 = .inr (0, 96, ga (gI (-2147483648) 2147483647)) := rfl
theorem shc_32 {nC nS : Int} : SHc nC nS 32 = .inr (0, 96, ga (gI (-2147483648) 2147483647)) := rfl
theorem skc_32 : SKc 32 = .inr (0, 96, ga (gI (-2147483648) 2147483647)) := rfl
theorem shc_33 {nC nS : Int} : SHc nC nS 33 = .inr (0, 96, ga (gI (-1) 95)) := rfl
theorem skc_33 : SKc 33 = .inr (0, 96, ga (gI (-1) 95)) := rfl
theorem shc_34 {nC nS : Int} : SHc nC nS 34 = .inr (0, 96, ga (gI (-2147483648) 2147483647)) := rfl
theorem skc_34 : SKc 34 = .inr (0, 96, ga (gI (-2147483648) 2147483647)) := rfl
theorem shc_35 {nC nS : Int} : SHc nC nS 35 = .inr (0, 96, ga (gI (-2147483648) 2147483647)) := rfl
theorem skc_35 : SKc 35 = .inr (0, 96, ga (gI (-2147483648) 2147483647)) := rfl
theorem shc_36 {nC nS : Int} : SHc nC nS 36 = .inr (0, 6, ga (gI (-2147483648) 2147483647)) := rfl
theorem skc_36 : SKc 36 = .inr (0, 6, ga (gI (-2147483648) 2147483647)) := rfl
theorem shc_37 {nC nS : Int} : SHc nC nS 37 = .inr (0, 6, ga (gI (-2147483648) 2147483647)) := rfl
theorem skc_37 : SKc 37 = .inr (0, 6, ga (gI (-2147483648) 2147483647)) := rfl
theorem shc_38 {nC nS : Int} : SHc nC nS 38 = .inr (0, 2304, ga (gI (-2147483648) 2147483647)) := rfl
theorem skc_38 : SKc 38 = .inr (0, 2304, ga (gI (-2147483648) 2147483647)) := rfl
theorem shc_39 {nC nS : Int} : SHc nC nS 39 = .inr (0, 2304, ga (gI (-2147483648) 2147483647)) := rfl
theorem skc_39 : SKc 39 = .inr (0, 2304, ga (gI (-2147483648) 2147483647)) := rfl
theorem shc_40 {nC nS : Int} : SHc nC nS 40 = .inr (0, 401, ga (gI 0 2147483647)) := rfl
theorem skc_40 : SKc 40 = .inr (0, 401, ga (gI 0 2147483647)) := rfl
theorem shc_41 {nC nS : Int} : SHc nC nS 41 = .inr (0, 401, ga (gI (-2147483648) 2147483647)) := rfl
theorem skc_41 : SKc 41 = .inr (0, 401, ga (gI (-2147483648) 2147483647)) := rfl
theorem shc_42 {nC nS : Int} : SHc nC nS 42 = .inr (0, 20, ga (gI (-2147483648) 2147483647)) := rfl
theorem skc_42 : SKc 42 = .inr (0, 20, ga (gI (-2147483648) 2147483647)) := rfl
theorem shc_43 {nC nS : Int} : SHc nC nS 43 = .inr (0, 20, ga (gI (-2147483648) 2147483647)) := rfl
theorem skc_43 : SKc 43 = .inr (0, 20, ga (gI (-2147483648) 2147483647)) := rfl
theorem shc_44 {nC nS : Int} : SHc nC nS 44 = .inr (0, 20, ga (gI (-2147483648) 2147483647)) := rfl
theorem skc_44 : SKc 44 = .inr (0, 20, ga (gI (-2147483648) 2147483647)) := rfl
theorem shc_45 {nC nS : Int} : SHc nC nS 45 = .inr (0, 20, ga (gI (-2147483648) 2147483647)) := rfl
theorem skc_45 : SKc 45 = .inr (0, 20, ga (gI (-2147483648) 2147483647)) := rfl
theorem shc_46 {nC nS : Int} : SHc nC nS 46 = .inr (0, 20, ga (gI (-2147483648) 2147483647)) := rfl
theorem skc_46 : SKc 46 = .inr (0, 20, ga (gI (-2147483648) 2147483647)) := rfl
theorem shc_47 {nC nS : Int} : SHc nC nS 47 = .inr (0, 20, ga (gI 0 400)) := rfl
theorem skc_47 : SKc 47 = .inr (0, 20, ga (gI 0 400)) := rfl
theorem shc_48 {nC nS : Int} : SHc nC nS 48 = .inr (0, 20, ga (gI 0 400)) := rfl
theorem skc_48 : SKc 48 = .inr (0, 20, ga (gI 0 400)) := rfl
theorem shc_49 {nC nS : Int} : SHc nC nS 49 = .inr (0, 400, ga (gI 0 2147483647)) := rfl
theorem skc_49 : SKc 49 = .inr (0, 400, ga (gI 0 2147483647)) := rfl
theorem shc_50 {nC nS : Int} : SHc nC nS 50 = .inr (2, 20, ga gJ) := rfl
theorem skc_50 : SKc 50 = .inr (2, 20, ga gJ) := rfl
theorem shc_51 {nC nS : Int} : SHc nC nS 51 = .inr (4, 60, gnb nS 10) := rfl
theorem skc_51 : SKc 51 = .inr (4, 60, gnb 0 10) := rfl
theorem shc_52 {nC nS : Int} : SHc nC nS 52 = .inr (0, 96, ga (gI (-2147483648) 2147483647)) := rfl
theorem skc_52 : SKc 52 = .inr (0, 96, ga (gI (-2147483648) 2147483647)) := rfl
theorem shc_53 {nC nS : Int} : SHc nC nS 53 = .inr (0, 30, ga (gI (-2147483648) 2147483647)) := rfl
theorem skc_53 : SKc 53 = .inr (0, 30, ga (gI (-2147483648) 2147483647)) := rfl
theorem shc_54 {nC nS : Int} : SHc nC nS 54 = .inr (1, 30, ga (gI 0 1)) := rfl
theorem skc_54 : SKc 54 = .inr (1, 30, ga (gI 0 1)) := rfl
theorem shc_55 {nC nS : Int} : SHc nC nS 55 = .inr (1, 5, ga (gI 0 1)) := rfl
theorem skc_55 : SKc 55 = .inr (1, 5, ga (gI 0 1)) := rfl
theorem shc_56 {nC nS : Int} : SHc nC nS 56 = .inr (2, 10, ga gJ) := rfl
theorem skc_56 : SKc 56 = .inr (2, 10, ga gJ) := rfl
theorem shc_57 {nC nS : Int} : SHc nC nS 57 = .inr (0, 60, ga (gI (-2147483648) 2147483647)) := rfl
theorem skc_57 : SKc 57 = .inr (0, 60, ga (gI (-2147483648) 2147483647)) := rfl
theorem shc_58 {nC nS : Int} : SHc nC nS 58 = .inr (0, 6, ga (gI (-2147483648) 2147483647)) := rfl
theorem skc_58 : SKc 58 = .inr (0, 6, ga (gI (-2147483648) 2147483647)) := rfl
theorem shc_59 {nC nS : Int} : SHc nC nS 59 = .inr (0, 121, ga (gI (-2147483648) 2147483647)) := rfl
theorem skc_59 : SKc 59 = .inr (0, 121, ga (gI (-2147483648) 2147483647)) := rfl
theorem shc_60 {nC nS : Int} : SHc nC nS 60 = .inr (0, 121, ga (gI (-2147483648) 2147483647)) := rfl
theorem skc_60 : SKc 60 = .inr (0, 121, ga (gI (-2147483648) 2147483647)) := rfl
theorem shc_61 {nC nS : Int} : SHc nC nS 61 = .inr (0, 6, ga (gI 0 95)) := rfl
theorem skc_61 : SKc 61 = .inr (0, 6, ga (gI 0 95)) := rfl
theorem shc_62 {nC nS : Int} : SHc nC nS 62 = .inr (0, 6, ga (gI (-2147483648) 2147483647)) := rfl
theorem skc_62 : SKc 62 = .inr (0, 6, ga (gI (-2147483648) 2147483647)) := rfl
theorem shc_63 {nC nS : Int} : SHc nC nS 63 = .inr (0, 7, ga (gI (-2147483648) 2147483647)) := rfl
theorem skc_63 : SKc 63 = .inr (0, 7, ga (gI (-2147483648) 2147483647)) := rfl
theorem shc_64 {nC nS : Int} : SHc nC nS 64 = .inr (0, 7, ga (gI (-2147483648) 2147483647)) := rfl
theorem skc_64 : SKc 64 = .inr (0, 7, ga (gI (-2147483648) 2147483647)) := rfl
theorem shc_65 {nC nS : Int} : SHc nC nS 65 = .inr (0, 7, ga (gI (-2147483648) 2147483647)) := rfl
theorem skc_65 : SKc 65 = .inr (0, 7, ga (gI (-2147483648) 2147483647)) := rfl
theorem shc_66 {nC nS : Int} : SHc nC nS 66 = .inr (0, 7, ga (gI (-2147483648) 2147483647)) := rfl
theorem skc_66 : SKc 66 = .inr (0, 7, ga (gI (-2147483648) 2147483647)) := rfl
theorem shc_67 {nC nS : Int} : SHc nC nS 67 = .inr (1, 7, ga (gI 0 1)) := rfl
theorem skc_67 : SKc 67 = .inr (1, 7, ga (gI 0 1)) := rfl
theorem shc_68 {nC nS : Int} : SHc nC nS 68 = .inr (0, 7, ga (gI 0 6)) := rfl
theorem skc_68 : SKc 68 = .inr (0, 7, ga (gI 0 6)) := rfl
theorem shc_69 {nC nS : Int} : SHc nC nS 69 = .inr (0, 7, ga (gI (-2147483648) 2147483647)) := rfl
theorem skc_69 : SKc 69 = .inr (0, 7, ga (gI (-2147483648) 2147483647)) := rfl
theorem shc_70 {nC nS : Int} : SHc nC nS 70 = .inr (6, 30, ga (gR 94)) := rfl
theorem skc_70 : SKc 70 = .inr (6, 30, ga (gR 94)) := rfl
theorem shc_71 {nC nS : Int} : SHc nC nS 71 = .inr (0, 12, ga (gI (-2147483648) 2147483647)) := rfl
theorem skc_71 : SKc 71 = .inr (0, 12, ga (gI (-2147483648) 2147483647)) := rfl
theorem shc_72 {nC nS : Int} : SHc nC nS 72 = .inr (0, 20, ga (gI (-2147483648) 2147483647)) := rfl
theorem skc_72 : SKc 72 = .inr (0, 20, ga (gI (-2147483648) 2147483647)) := rfl
theorem shc_73 {nC nS : Int} : SHc nC nS 73 = .inr (0, 20, ga (gI (-2147483648) 2147483647)) := rfl
theorem skc_73 : SKc 73 = .inr (0, 20, ga (gI (-2147483648) 2147483647)) := rfl
theorem shc_74 {nC nS : Int} : SHc nC nS 74 = .inr (0, 20, ga (gI (-2147483648) 2147483647)) := rfl
theorem skc_74 : SKc 74 = .inr (0, 20, ga (gI (-2147483648) 2147483647)) := rfl
theorem shc_75 {nC nS : Int} : SHc nC nS 75 = .inr (0, 60, ga (gI (-2147483648) 2147483647)) := rfl
theorem skc_75 : SKc 75 = .inr (0, 60, ga (gI (-2147483648) 2147483647)) := rfl
theorem shc_76 {nC nS : Int} : SHc nC nS 76 = .inr (0, 60, ga (gI (-2147483648) 2147483647)) := rfl
theorem skc_76 : SKc 76 = .inr (0, 60, ga (gI (-2147483648) 2147483647)) := rfl
theorem shc_77 {nC nS : Int} : SHc nC nS 77 = .inr (1, 96, ga (gI 0 1)) := rfl
theorem skc_77 : SKc 77 = .inr (1, 96, ga (gI 0 1)) := rfl
theorem shc_78 {nC nS : Int} : SHc nC nS 78 = .inr (0, 96, ga (gI (-2147483648) 2147483647)) := rfl
theorem skc_78 : SKc 78 = .inr (0, 96, ga (gI (-2147483648) 2147483647)) := rfl
theorem shc_79 {nC nS : Int} : SHc nC nS 79 = .inr (0, 96, ga (gI (-2147483648) 2147483647)) := rfl
theorem skc_79 : SKc 79 = .inr (0, 96, ga (gI (-2147483648) 2147483647)) := rfl
theorem shc_80 {nC nS : Int} : SHc nC nS 80 = .inr (0, 96, ga (gI (-2147483648) 2147483647)) := rfl
theorem skc_80 : SKc 80 = .inr (0, 96, ga (gI (-2147483648) 2147483647)) := rfl
theorem shc_81 {nC nS : Int} : SHc nC nS 81 = .inr (0, 96, ga (gI (-2147483648) 2147483647)) := rfl
theorem skc_81 : SKc 81 = .inr (0, 96, ga (gI (-2147483648) 2147483647)) := rfl
theorem shc_82 {nC nS : Int} : SHc nC nS 82 = .inr (0, 96, ga (gI (-2147483648) 2147483647)) := rfl
theorem skc_82 : SKc 82 = .inr (0, 96, ga (gI (-2147483648) 2147483647)) := rfl
theorem shc_83 {nC nS : Int} : SHc nC nS 83 = .inr (0, 96, ga (gI (-2147483648) 2147483647)) := rfl
theorem skc_83 : SKc 83 = .inr (0, 96, ga (gI (-2147483648) 2147483647)) := rfl
theorem shc_84 {nC nS : Int} : SHc nC nS 84 = .inr (0, 96, ga (gI (-2147483648) 2147483647)) := rfl
theorem skc_84 : SKc 84 = .inr (0, 96, ga (gI (-2147483648) 2147483647)) := rfl
theorem shc_85 {nC nS : Int} : SHc nC nS 85 = .inr (0, 96, ga (gI (-1) 95)) := rfl
theorem skc_85 : SKc 85 = .inr (0, 96, ga (gI (-1) 95)) := rfl
theorem shc_86 {nC nS : Int} : SHc nC nS 86 = .inr (0, 96, ga (gI (-2147483648) 2147483647)) := rfl
theorem skc_86 : SKc 86 = .inr (0, 96, ga (gI (-2147483648) 2147483647)) := rfl
theorem shc_87 {nC nS : Int} : SHc nC nS 87 = .inr (0, 96, ga (gI (-2147483648) 2147483647)) := rfl
theorem skc_87 : SKc 87 = .inr (0, 96, ga (gI (-2147483648) 2147483647)) := rfl
theorem shc_88 {nC nS : Int} : SHc nC nS 88 = .inr (0, 6, ga (gI (-2147483648) 2147483647)) := rfl
theorem skc_88 : SKc 88 = .inr (0, 6, ga (gI (-2147483648) 2147483647)) := rfl
theorem shc_89 {nC nS : Int} : SHc nC nS 89 = .inr (0, 6, ga (gI (-2147483648) 2147483647)) := rfl
theorem skc_89 : SKc 89 = .inr (0, 6, ga (gI (-2147483648) 2147483647)) := rfl
theorem shc_103 {nC nS : Int} : SHc nC nS 103 = .inl (3, 18, gl [gN 51, gN 52, gN 53, gN 54, gN 55, gN 56, gN 57, gN 7, gN 7, gN 7, gI (-2147483648) 2147483647, gI 0 1, gJ, gJ, gI 0 0, gI (-2147483648) 2147483647, gI 0 30, gI (-2147483648) 2147483647]) := rfl
theorem skc_103 : SKc 103 = .inl (3, 18, gl [gN 51, gN 52, gN 53, gN 54, gN 55, gN 56, gN 57, gN 7, gN 7, gN 7, gI (-2147483648) 2147483647, gI 0 1, gJ, gJ, gI 0 0, gI (-2147483648) 2147483647, gI 0 30, gI (-2147483648) 2147483647]) := rfl
theorem shc_104 {nC nS : Int} : SHc nC nS 104 = .inl (4, 8, gl [gI 0 29, gI (-2147483648) 2147483647, gI (-2147483648) 2147483647, gI (-2147483648) 2147483647, gI 0 1, gI (-2147483648) 2147483647, gI (-2147483648) 2147483647, gI 0 1]) := rfl
theorem skc_104 : SKc 104 = .inl (4, 8, gl [gI 0 29, gI (-2147483648) 2147483647, gI (-2147483648) 2147483647, gI (-2147483648) 2147483647, gI 0 1, gI (-2147483648) 2147483647, gI (-2147483648) 2147483647, gI 0 1]) := rfl
theorem shc_105 {nC nS : Int} : SHc nC nS 105 = .inl (5, 15, gl [gN 25, gN 26, gN 27, gN 28, gN 29, gN 30, gN 31, gN 32, gN 33, gN 34, gN 35, gI (-2147483648) 2147483647, gI (-2147483648) 2147483647, gI (-2147483648) 2147483647, gI (-2147483648) 2147483647]) := rfl
theorem skc_105 : SKc 105 = .inl (5, 15, gl [gN 25, gN 26, gN 27, gN 28, gN 29, gN 30, gN 31, gN 32, gN 33, gN 34, gN 35, gI (-2147483648) 2147483647, gI (-2147483648) 2147483647, gI (-2147483648) 2147483647, gI (-2147483648) 2147483647]) := rfl
theorem shc_106 {nC nS : Int} : SHc nC nS 106 = .inl (6, 5, gl [gN 11, gN 5, gV, gI 0 30, gI 0 40000]) := rfl
theorem skc_106 : SKc 106 = .inl (6, 5, gl [gN 11, gN 5, gV, gI 0 30, gI 0 40000]) := rfl
theorem shc_107 {nC nS : Int} : SHc nC nS 107 = .inl (7, 14, gl [gN 40, gN 41, gN 42, gN 43, gN 44, gN 45, gN 46, gN 47, gN 48, gN 49, gN 50, gI 0 20, gI 0 400, gI 0 400]) := rfl
theorem skc_107 : SKc 107 = .inl (7, 14, gl [gN 40, gN 41, gN 42, gN 43, gN 44, gN 45, gN 46, gN 47, gN 48, gN 49, gN 50, gI 0 20, gI 0 400, gI 0 400]) := rfl
theorem shc_108 {nC nS : Int} : SHc nC nS 108 = .inl (8, 17, gl [gN 58, gN 59, gN 60, gN 61, gN 62, gN 63, gN 64, gN 65, gN 66, gN 67, gN 68, gN 69, gI 0 5, gI 0 6, gI (-2147483648) 2147483647, gI 0 7, gI (-2147483648) 2147483647]) := rfl
theorem skc_108 : SKc 108 = .inl (8, 17, gl [gN 58, gN 59, gN 60, gN 61, gN 62, gN 63, gN 64, gN 65, gN 66, gN 67, gN 68, gN 69, gI 0 5, gI 0 6, gI (-2147483648) 2147483647, gI 0 7, gI (-2147483648) 2147483647]) := rfl
theorem shc_109 {nC nS : Int} : SHc nC nS 109 = .inl (9, 4, gl [gN 38, gN 39, gI 0 24, gI 0 23]) := rfl
theorem skc_109 : SKc 109 = .inl (9, 4, gl [gN 38, gN 39, gI 0 24, gI 0 23]) := rfl
theorem shc_110 {nC nS : Int} : SHc nC nS 110 = .inl (10, 12, gl [gI (-2147483648) 2147483647, gI (-2147483648) 2147483647, gI (-2147483648) 2147483647, gI 0 1, gI 0 1, gI (-2147483648) 2147483647, gI (-2147483648) 2147483647, gI (-1) 29, gI (-2147483648) 2147483647, gI (-2147483648) 2147483647, gI 0 1, gI 0 1]) := rfl
theorem skc_110 : SKc 110 = .inl (10, 12, gl [gI (-2147483648) 2147483647, gI (-2147483648) 2147483647, gI (-2147483648) 2147483647, gI 0 1, gI 0 1, gI (-2147483648) 2147483647, gI (-2147483648) 2147483647, gI (-1) 29, gI (-2147483648) 2147483647, gI (-2147483648) 2147483647, gI 0 1, gI 0 1]) := rfl
theorem shc_111 {nC nS : Int} : SHc nC nS 111 = .inl (11, 7, gl [gN 19, gN 20, gN 21, gN 22, gN 12, gN 12, gI 0 20]) := rfl
theorem skc_111 : SKc 111 = .inl (11, 7, gl [gN 19, gN 20, gN 21, gN 22, gN 12, gN 12, gI 0 20]) := rfl
theorem shc_112 {nC nS : Int} : SHc nC nS 112 = .inl (12, 3, gl [gN 23, gN 24, gI 0 60]) := rfl
theorem skc_112 : SKc 112 = .inl (12, 3, gl [gN 23, gN 24, gI 0 60]) := rfl
theorem shc_113 {nC nS : Int} : SHc nC nS 113 = .inl (13, 12, gl [gN 36, gN 37, gI (-2147483648) 2147483647, gI 0 95, gI 0 95, gI (-2147483648) 2147483647, gI (-2147483648) 2147483647, gI 0 6, gI (-2147483648) 2147483647, gI 0 1, gI (-2147483648) 2147483647, gI (-2147483648) 2147483647]) := rfl
theorem skc_113 : SKc 113 = .inl (13, 12, gl [gN 36, gN 37, gI (-2147483648) 2147483647, gI 0 95, gI 0 95, gI (-2147483648) 2147483647, gI (-2147483648) 2147483647, gI 0 6, gI (-2147483648) 2147483647, gI 0 1, gI (-2147483648) 2147483647, gI (-2147483648) 2147483647]) := rfl
theorem shc_114 {nC nS : Int} : SHc nC nS 114 = .inl (14, 9, gl [gN 16, gN 6, gN 9, gN 3, gN 17, gN 8, gN 90, gI 0 400, gI 0 0]) := rfl
theorem skc_114 : SKc 114 = .inl (14, 9, gl [gN 16, gN 6, gN 9, gN 3, gN 17, gN 8, gN 90, gI 0 400, gI 0 0]) := rfl
theorem shc_120 {nC nS : Int} : SHc nC nS 120 = .inl (6, 5, gl [gN 91, gN 93, gV, gI 0 30, gI 0 40000]) := rfl
theorem skc_120 : SKc 120 = .inl (6, 5, gl [gN 91, gN 93, gV, gI 0 30, gI 0 40000]) := rfl
theorem shc_121 {nC nS : Int} : SHc nC nS 121 = .inl (11, 7, gl [gN 71, gN 72, gN 73, gN 74, gN 92, gN 92, gI 0 20]) := rfl
theorem skc_121 : SKc 121 = .inl (11, 7, gl [gN 71, gN 72, gN 73, gN 74, gN 92, gN 92, gI 0 20]) := rfl
theorem shc_122 {nC nS : Int} : SHc nC nS 122 = .inl (12, 3, gl [gN 75, gN 76, gI 0 60]) := rfl
theorem skc_122 : SKc 122 = .inl (12, 3, gl [gN 75, gN 76, gI 0 60]) := rfl
theorem shc_123 {nC nS : Int} : SHc nC nS 123 = .inl (5, 15, gl [gN 77, gN 78, gN 79, gN 80, gN 81, gN 82, gN 83, gN 84, gN 85, gN 86, gN 87, gI (-2147483648) 2147483647, gI (-2147483648) 2147483647, gI (-2147483648) 2147483647, gI (-2147483648) 2147483647]) := rfl
theorem skc_123 : SKc 123 = .inl (5, 15, gl [gN 77, gN 78, gN 79, gN 80, gN 81, gN 82, gN 83, gN 84, gN 85, gN 86, gN 87, gI (-2147483648) 2147483647, gI (-2147483648) 2147483647, gI (-2147483648) 2147483647, gI (-2147483648) 2147483647]) := rfl
theorem shc_124 {nC nS : Int} : SHc nC nS 124 = .inl (13, 12, gl [gN 88, gN 89, gI (-2147483648) 2147483647, gI 0 95, gI 0 95, gI (-2147483648) 2147483647, gI (-2147483648) 2147483647, gI 0 6, gI (-2147483648) 2147483647, gI 0 1, gI (-2147483648) 2147483647, gI (-2147483648) 2147483647]) := rfl
theorem skc_124 : SKc 124 = .inl (13, 12, gl [gN 88, gN 89, gI (-2147483648) 2147483647, gI 0 95, gI 0 95, gI (-2147483648) 2147483647, gI (-2147483648) 2147483647, gI 0 6, gI (-2147483648) 2147483647, gI 0 1, gI (-2147483648) 2147483647, gI (-2147483648) 2147483647]) := rfl
theorem shc_99 {nC nS : Int} : SHc nC nS 99 = .inr (6, 30, ga (gN 13)) := rfl
theorem skc_99 : SKc 99 = .inr (6, 30, ga (gN 13)) := rfl
theorem shc_125 {nC nS : Int} : SHc nC nS 125 = .inr (6, 30, ga (gN 94)) := rfl
theorem skc_125 : SKc 125 = .inr (6, 30, ga (gN 94)) := rfl
theorem shc_98 {nC nS : Int} : SHc nC nS 98 = .inr (2, 1, ga gJ) := rfl
theorem skc_98 : SKc 98 = .inr (2, 1, ga gJ) := rfl
