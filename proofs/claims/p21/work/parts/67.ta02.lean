set_option maxRecDepth 100000 in
theorem rs_rC {nC nS : Int} : ∀ t u, t ≠ 166 → t ≠ 167 → zt_rC t = some u → rS zt_rC (SHc nC nS t) (SHc nC nS u) := by
  intro t u hne hne2 h
  have h := zt_m h
  rcases List.mem_cons.mp h with h | h
  · obtain ⟨rfl, rfl⟩ := Prod.mk.inj h
    exact rs_rC_4
  rcases List.mem_cons.mp h with h | h
  · obtain ⟨rfl, rfl⟩ := Prod.mk.inj h
    exact rs_rC_5
  rcases List.mem_cons.mp h with h | h
  · obtain ⟨rfl, rfl⟩ := Prod.mk.inj h
    exact rs_rC_6
  rcases List.mem_cons.mp h with h | h
  · obtain ⟨rfl, rfl⟩ := Prod.mk.inj h
    exact rs_rC_7
  rcases List.mem_cons.mp h with h | h
  · obtain ⟨rfl, rfl⟩ := Prod.mk.inj h
    exact rs_rC_8
  rcases List.mem_cons.mp h with h | h
  · obtain ⟨rfl, rfl⟩ := Prod.mk.inj h
    exact rs_rC_9
  rcases List.mem_cons.mp h with h | h
  · obtain ⟨rfl, rfl⟩ := Prod.mk.inj h
    exact rs_rC_10
  rcases List.mem_cons.mp h with h | h
  · obtain ⟨rfl, rfl⟩ := Prod.mk.inj h
    exact rs_rC_11
  rcases List.mem_cons.mp h with h | h
  · obtain ⟨rfl, rfl⟩ := Prod.mk.inj h
    exact rs_rC_12
  rcases List.mem_cons.mp h with h | h
  · obtain ⟨rfl, rfl⟩ := Prod.mk.inj h
    exact rs_rC_13
  rcases List.mem_cons.mp h with h | h
  · obtain ⟨rfl, rfl⟩ := Prod.mk.inj h
    exact rs_rC_16
  rcases List.mem_cons.mp h with h | h
  · obtain ⟨rfl, rfl⟩ := Prod.mk.inj h
    exact rs_rC_17
  rcases List.mem_cons.mp h with h | h
  · obtain ⟨rfl, rfl⟩ := Prod.mk.inj h
    exact rs_rC_18
  rcases List.mem_cons.mp h with h | h
  · obtain ⟨rfl, rfl⟩ := Prod.mk.inj h
    exact rs_rC_19
  rcases List.mem_cons.mp h with h | h
  · obtain ⟨rfl, rfl⟩ := Prod.mk.inj h
    exact rs_rC_20
  rcases List.mem_cons.mp h with h | h
  · obtain ⟨rfl, rfl⟩ := Prod.mk.inj h
    exact rs_rC_21
  rcases List.mem_cons.mp h with h | h
  · obtain ⟨rfl, rfl⟩ := Prod.mk.inj h
    exact rs_rC_22
  rcases List.mem_cons.mp h with h | h
  · obtain ⟨rfl, rfl⟩ := Prod.mk.inj h
    exact rs_rC_23
  rcases List.mem_cons.mp h with h | h
  · obtain ⟨rfl, rfl⟩ := Prod.mk.inj h
    exact rs_rC_24
  rcases List.mem_cons.mp h with h | h
  · obtain ⟨rfl, rfl⟩ := Prod.mk.inj h
    exact rs_rC_25
  rcases List.mem_cons.mp h with h | h
  · obtain ⟨rfl, rfl⟩ := Prod.mk.inj h
    exact rs_rC_26
  rcases List.mem_cons.mp h with h | h
  · obtain ⟨rfl, rfl⟩ := Prod.mk.inj h
    exact rs_rC_27
  rcases List.mem_cons.mp h with h | h
  · obtain ⟨rfl, rfl⟩ := Prod.mk.inj h
    exact rs_rC_28
  rcases List.mem_cons.mp h with h | h
  · obtain ⟨rfl, rfl⟩ := Prod.mk.inj h
    exact rs_rC_29
  rcases List.mem_cons.mp h with h | h
  · obtain ⟨rfl, rfl⟩ := Prod.mk.inj h
    exact rs_rC_30
  rcases List.mem_cons.mp h with h | h
  · obtain ⟨rfl, rfl⟩ := Prod.mk.inj h
    exact rs_rC_31
  rcases List.mem_cons.mp h with h | h
  · obtain ⟨rfl, rfl⟩ := Prod.mk.inj h
    exact rs_rC_32
  rcases List.mem_cons.mp h with h | h
  · obtain ⟨rfl, rfl⟩ := Prod.mk.inj h
    exact rs_rC_33
  rcases List.mem_cons.mp h with h | h
  · obtain ⟨rfl, rfl⟩ := Prod.mk.inj h
    exact rs_rC_34
  rcases List.mem_cons.mp h with h | h
  · obtain ⟨rfl, rfl⟩ := Prod.mk.inj h
    exact rs_rC_35
  rcases List.mem_cons.mp h with h | h
  · obtain ⟨rfl, rfl⟩ := Prod.mk.inj h
    exact rs_rC_36
  rcases List.mem_cons.mp h with h | h
  · obtain ⟨rfl, rfl⟩ := Prod.mk.inj h
    exact rs_rC_37
  rcases List.mem_cons.mp h with h | h
  · obtain ⟨rfl, rfl⟩ := Prod.mk.inj h
    exact rs_rC_38
  rcases List.mem_cons.mp h with h | h
  · obtain ⟨rfl, rfl⟩ := Prod.mk.inj h
    exact rs_rC_39
  rcases List.mem_cons.mp h with h | h
  · obtain ⟨rfl, rfl⟩ := Prod.mk.inj h
    exact rs_rC_40
  rcases List.mem_cons.mp h with h | h
  · obtain ⟨rfl, rfl⟩ := Prod.mk.inj h
    exact rs_rC_41
  rcases List.mem_cons.mp h with h | h
  · obtain ⟨rfl, rfl⟩ := Prod.mk.inj h
    exact rs_rC_42
  rcases List.mem_cons.mp h with h | h
  · obtain ⟨rfl, rfl⟩ := Prod.mk.inj h
    exact rs_rC_43
  rcases List.mem_cons.mp h with h | h
  · obtain ⟨rfl, rfl⟩ := Prod.mk.inj h
    exact rs_rC_44
  rcases List.mem_cons.mp h with h | h
  · obtain ⟨rfl, rfl⟩ := Prod.mk.inj h
    exact rs_rC_45
  rcases List.mem_cons.mp h with h | h
  · obtain ⟨rfl, rfl⟩ := Prod.mk.inj h
    exact rs_rC_46
  rcases List.mem_cons.mp h with h | h
  · obtain ⟨rfl, rfl⟩ := Prod.mk.inj h
    exact rs_rC_47
  rcases List.mem_cons.mp h with h | h
  · obtain ⟨rfl, rfl⟩ := Prod.mk.inj h
    exact rs_rC_48
  rcases List.mem_cons.mp h with h | h
  · obtain ⟨rfl, rfl⟩ := Prod.mk.inj h
    exact rs_rC_49
  rcases List.mem_cons.mp h with h | h
  · obtain ⟨rfl, rfl⟩ := Prod.mk.inj h
    exact rs_rC_50
  rcases List.mem_cons.mp h with h | h
  · obtain ⟨rfl, rfl⟩ := Prod.mk.inj h
    exact rs_rC_51
  rcases List.mem_cons.mp h with h | h
  · obtain ⟨rfl, rfl⟩ := Prod.mk.inj h
    exact rs_rC_52
  rcases List.mem_cons.mp h with h | h
  · obtain ⟨rfl, rfl⟩ := Prod.mk.inj h
    exact rs_rC_53
  rcases List.mem_cons.mp h with h | h
  · obtain ⟨rfl, rfl⟩ := Prod.mk.inj h
    exact rs_rC_54
  rcases List.mem_cons.mp h with h | h
  · obtain ⟨rfl, rfl⟩ := Prod.mk.inj h
    exact rs_rC_55
  rcases List.mem_cons.mp h with h | h
  · obtain ⟨rfl, rfl⟩ := Prod.mk.inj h
    exact rs_rC_56
  rcases List.mem_cons.mp h with h | h
  · obtain ⟨rfl, rfl⟩ := Prod.mk.inj h
    exact rs_rC_57
  rcases List.mem_cons.mp h with h | h
  · obtain ⟨rfl, rfl⟩ := Prod.mk.inj h
    exact rs_rC_58
  rcases List.mem_cons.mp h with h | h
  · obtain ⟨rfl, rfl⟩ := Prod.mk.inj h
    exact rs_rC_59
  rcases List.mem_cons.mp h with h | h
  · obtain ⟨rfl, rfl⟩ := Prod.mk.inj h
    exact rs_rC_60
  rcases List.mem_cons.mp h with h | h
  · obtain ⟨rfl, rfl⟩ := Prod.mk.inj h
    exact rs_rC_61
  rcases List.mem_cons.mp h with h | h
  · obtain ⟨rfl, rfl⟩ := Prod.mk.inj h
    exact rs_rC_62
  rcases List.mem_cons.mp h with h | h
  · obtain ⟨rfl, rfl⟩ := Prod.mk.inj h
    exact rs_rC_63
  rcases List.mem_cons.mp h with h | h
  · obtain ⟨rfl, rfl⟩ := Prod.mk.inj h
    exact rs_rC_64
  rcases List.mem_cons.mp h with h | h
  · obtain ⟨rfl, rfl⟩ := Prod.mk.inj h
    exact rs_rC_65
  rcases List.mem_cons.mp h with h | h
  · obtain ⟨rfl, rfl⟩ := Prod.mk.inj h
    exact rs_rC_66
  rcases List.mem_cons.mp h with h | h
  · obtain ⟨rfl, rfl⟩ := Prod.mk.inj h
    exact rs_rC_67
  rcases List.mem_cons.mp h with h | h
  · obtain ⟨rfl, rfl⟩ := Prod.mk.inj h
    exact rs_rC_68
  rcases List.mem_cons.mp h with h | h
  · obtain ⟨rfl, rfl⟩ := Prod.mk.inj h
    exact rs_rC_69
  rcases List.mem_cons.mp h with h | h
  · obtain ⟨rfl, rfl⟩ := Prod.mk.inj h
    exact rs_rC_70
  rcases List.mem_cons.mp h with h | h
  · obtain ⟨rfl, rfl⟩ := Prod.mk.inj h
    exact rs_rC_71
  rcases List.mem_cons.mp h with h | h
  · obtain ⟨rfl, rfl⟩ := Prod.mk.inj h
    exact rs_rC_72
  rcases List.mem_cons.mp h with h | h
  · obtain ⟨rfl, rfl⟩ := Prod.mk.inj h
    exact rs_rC_73
  rcases List.mem_cons.mp h with h | h
  · obtain ⟨rfl, rfl⟩ := Prod.mk.inj h
    exact rs_rC_74
  rcases List.mem_cons.mp h with h | h
  · obtain ⟨rfl, rfl⟩ := Prod.mk.inj h
    exact rs_rC_75
  rcases List.mem_cons.mp h with h | h
  · obtain ⟨rfl, rfl⟩ := Prod.mk.inj h
    exact rs_rC_76
  rcases List.mem_cons.mp h with h | h
  · obtain ⟨rfl, rfl⟩ := Prod.mk.inj h
    exact rs_rC_77
  rcases List.mem_cons.mp h with h | h
  · obtain ⟨rfl, rfl⟩ := Prod.mk.inj h
    exact rs_rC_78
  rcases List.mem_cons.mp h with h | h
  · obtain ⟨rfl, rfl⟩ := Prod.mk.inj h
    exact rs_rC_79
  rcases List.mem_cons.mp h with h | h
  · obtain ⟨rfl, rfl⟩ := Prod.mk.inj h
    exact rs_rC_80
  rcases List.mem_cons.mp h with h | h
  · obtain ⟨rfl, rfl⟩ := Prod.mk.inj h
    exact rs_rC_81
  rcases List.mem_cons.mp h with h | h
  · obtain ⟨rfl, rfl⟩ := Prod.mk.inj h
    exact rs_rC_82
  rcases List.mem_cons.mp h with h | h
  · obtain ⟨rfl, rfl⟩ := Prod.mk.inj h
    exact rs_rC_83
  rcases List.mem_cons.mp h with h | h
  · obtain ⟨rfl, rfl⟩ := Prod.mk.inj h
    exact rs_rC_84
  rcases List.mem_cons.mp h with h | h
  · obtain ⟨rfl, rfl⟩ := Prod.mk.inj h
    exact rs_rC_85
  rcases List.mem_cons.mp h with h | h
  · obtain ⟨rfl, rfl⟩ := Prod.mk.inj h
    exact rs_rC_86
  rcases List.mem_cons.mp h with h | h
  · obtain ⟨rfl, rfl⟩ := Prod.mk.inj h
    exact rs_rC_87
  rcases List.mem_cons.mp h with h | h
  · obtain ⟨rfl, rfl⟩ := Prod.mk.inj h
    exact rs_rC_88
  rcases List.mem_cons.mp h with h | h
  · obtain ⟨rfl, rfl⟩ := Prod.mk.inj h
    exact rs_rC_89
  rcases List.mem_cons.mp h with h | h
  · obtain ⟨rfl, rfl⟩ := Prod.mk.inj h
    exact rs_rC_90
  rcases List.mem_cons.mp h with h | h
  · obtain ⟨rfl, rfl⟩ := Prod.mk.inj h
    exact rs_rC_91
  rcases List.mem_cons.mp h with h | h
  · obtain ⟨rfl, rfl⟩ := Prod.mk.inj h
    exact rs_rC_92
  rcases List.mem_cons.mp h with h | h
  · obtain ⟨rfl, rfl⟩ := Prod.mk.inj h
    exact rs_rC_93
  rcases List.mem_cons.mp h with h | h
  · obtain ⟨rfl, rfl⟩ := Prod.mk.inj h
    exact rs_rC_94
  rcases List.mem_cons.mp h with h | h
  · obtain ⟨rfl, rfl⟩ := Prod.mk.inj h
    exact rs_rC_98
  rcases List.mem_cons.mp h with h | h
  · obtain ⟨rfl, rfl⟩ := Prod.mk.inj h
    exact rs_rC_140
  rcases List.mem_cons.mp h with h | h
  · obtain ⟨rfl, rfl⟩ := Prod.mk.inj h
    exact rs_rC_141
  rcases List.mem_cons.mp h with h | h
  · obtain ⟨rfl, rfl⟩ := Prod.mk.inj h
    exact rs_rC_142
  rcases List.mem_cons.mp h with h | h
  · obtain ⟨rfl, rfl⟩ := Prod.mk.inj h
    exact rs_rC_143
  rcases List.mem_cons.mp h with h | h
  · obtain ⟨rfl, rfl⟩ := Prod.mk.inj h
    exact rs_rC_144
  rcases List.mem_cons.mp h with h | h
  · obtain ⟨rfl, rfl⟩ := Prod.mk.inj h
    exact rs_rC_145
  rcases List.mem_cons.mp h with h | h
  · obtain ⟨rfl, rfl⟩ := Prod.mk.inj h
    exact rs_rC_146
  rcases List.mem_cons.mp h with h | h
  · obtain ⟨rfl, rfl⟩ := Prod.mk.inj h
    exact rs_rC_147
  rcases List.mem_cons.mp h with h | h
  · obtain ⟨rfl, rfl⟩ := Prod.mk.inj h
    exact rs_rC_148
  rcases List.mem_cons.mp h with h | h
  · obtain ⟨rfl, rfl⟩ := Prod.mk.inj h
    exact rs_rC_149
  rcases List.mem_cons.mp h with h | h
  · obtain ⟨rfl, rfl⟩ := Prod.mk.inj h
    exact rs_rC_150
  rcases List.mem_cons.mp h with h | h
  · obtain ⟨rfl, rfl⟩ := Prod.mk.inj h
    exact rs_rC_151
  rcases List.mem_cons.mp h with h | h
  · obtain ⟨rfl, rfl⟩ := Prod.mk.inj h
    exact rs_rC_152
  rcases List.mem_cons.mp h with h | h
  · obtain ⟨rfl, rfl⟩ := Prod.mk.inj h
    exact rs_rC_153
  rcases List.mem_cons.mp h with h | h
  · obtain ⟨rfl, rfl⟩ := Prod.mk.inj h
    exact rs_rC_154
  rcases List.mem_cons.mp h with h | h
  · obtain ⟨rfl, rfl⟩ := Prod.mk.inj h
    exact rs_rC_155
  rcases List.mem_cons.mp h with h | h
  · obtain ⟨rfl, rfl⟩ := Prod.mk.inj h
    exact rs_rC_156
  rcases List.mem_cons.mp h with h | h
  · obtain ⟨rfl, rfl⟩ := Prod.mk.inj h
    exact rs_rC_157
  rcases List.mem_cons.mp h with h | h
  · obtain ⟨rfl, rfl⟩ := Prod.mk.inj h
    exact rs_rC_158
  rcases List.mem_cons.mp h with h | h
  · obtain ⟨rfl, rfl⟩ := Prod.mk.inj h
    exact rs_rC_159
  rcases List.mem_cons.mp h with h | h
  · obtain ⟨rfl, rfl⟩ := Prod.mk.inj h
    exact rs_rC_160
  rcases List.mem_cons.mp h with h | h
  · obtain ⟨rfl, rfl⟩ := Prod.mk.inj h
    exact rs_rC_161
  rcases List.mem_cons.mp h with h | h
  · obtain ⟨rfl, rfl⟩ := Prod.mk.inj h
    exact rs_rC_162
  rcases List.mem_cons.mp h with h | h
  · obtain ⟨rfl, rfl⟩ := Prod.mk.inj h
    exact rs_rC_163
  rcases List.mem_cons.mp h with h | h
  · obtain ⟨rfl, rfl⟩ := Prod.mk.inj h
    exact absurd rfl hne
  rcases List.mem_cons.mp h with h | h
  · obtain ⟨rfl, rfl⟩ := Prod.mk.inj h
    exact absurd rfl hne2
  exact absurd h List.not_mem_nil
def ZL_fl : List (Nat × Nat) := ((3, 3) :: (4, 4) :: (5, 5) :: (6, 6) :: (7, 7) :: (8, 8) :: (9, 9) :: (10, 10) :: (11, 11) :: (12, 12) :: (13, 13) :: (14, 14) :: (16, 16) :: (17, 17) :: (18, 18) :: (19, 19) :: (20, 20) :: (21, 21) :: (22, 22) :: (23, 23) :: (24, 24) :: (25, 25) :: (26, 26) :: (27, 27) :: (28, 28) :: (29, 29) :: (30, 30) :: (31, 31) :: (32, 32) :: (33, 33) :: (34, 34) :: (35, 35) :: (36, 36) :: (37, 37) :: (38, 38) :: (39, 39) :: (40, 40) :: (41, 41) :: (42, 42) :: (43, 43) :: (44, 44) :: (45, 45) :: (46, 46) :: (47, 47) :: (48, 48) :: (49, 49) :: (50, 50) :: (51, 51) :: (52, 52) :: (53, 53) :: (54, 54) :: (55, 55) :: (56, 56) :: (57, 57) :: (58, 58) :: (59, 59) :: (60, 60) :: (61, 61) :: (62, 62) :: (63, 63) :: (64, 64) :: (65, 65) :: (66, 66) :: (67, 67) :: (68, 68) :: (69, 69) :: (70, 70) :: (71, 71) :: (72, 72) :: (73, 73) :: (74, 74) :: (75, 75) :: (76, 76) :: (77, 77) :: (78, 78) :: (79, 79) :: (80, 80) :: (81, 81) :: (82, 82) :: (83, 83) :: (84, 84) :: (85, 85) :: (86, 86) :: (87, 87) :: (88, 88) :: (89, 89) :: (90, 90) :: (91, 91) :: (92, 92) :: (93, 93) :: (94, 94) :: (98, 98) :: (140, 140) :: (141, 141) :: (142, 142) :: (143, 143) :: (144, 144) :: (145, 145) :: (146, 146) :: (147, 147) :: (148, 148) :: (149, 149) :: (150, 150) :: (151, 151) :: (152, 152) :: (153, 153) :: (154, 154) :: (155, 155) :: (156, 156) :: (157, 157) :: (158, 158) :: (159, 159) :: (160, 160) :: (161, 161) :: (162, 162) :: (163, 163) :: [])
def zt_fl : Nat → Option Nat := zt ZL_fl
theorem rs_fl_3 {nC nS : Int} : rS zt_fl (SHc nC nS 3) (SHc nC nS 3) := ⟨rfl, rfl, (rE_cons (rK_R (by decide)) (rE_cons (rK_R (by decide)) (rE_cons (rK_R (by decide)) (rE_cons (rK_R (by decide)) (rE_cons (rK_R (by decide)) (rE_cons (rK_R (by decide)) (rE_cons (rK_R (by decide)) (rE_cons (rK_R (by decide)) (rE_cons (rK_R (by decide)) (rE_cons (rK_R (by decide)) (rE_cons rK_I (rE_cons rK_I (rE_cons rK_J (rE_cons rK_J (rE_cons rK_I (rE_cons rK_I (rE_cons rK_I (rE_cons rK_I rE_nil))))))))))))))))))⟩
theorem rs_fl_4 {nC nS : Int} : rS zt_fl (SHc nC nS 4) (SHc nC nS 4) := ⟨rfl, rfl, (rE_cons rK_I (rE_cons rK_I (rE_cons rK_I (rE_cons rK_I (rE_cons rK_I (rE_cons rK_I (rE_cons rK_I (rE_cons rK_I rE_nil))))))))⟩
theorem rs_fl_5 {nC nS : Int} : rS zt_fl (SHc nC nS 5) (SHc nC nS 5) := ⟨rfl, rfl, (rE_cons (rK_R (by decide)) (rE_cons (rK_R (by decide)) (rE_cons (rK_R (by decide)) (rE_cons (rK_R (by decide)) (rE_cons (rK_R (by decide)) (rE_cons (rK_R (by decide)) (rE_cons (rK_R (by decide)) (rE_cons (rK_R (by decide)) (rE_cons (rK_R (by decide)) (rE_cons (rK_R (by decide)) (rE_cons (rK_R (by decide)) (rE_cons rK_I (rE_cons rK_I (rE_cons rK_I (rE_cons rK_I rE_nil)))))))))))))))⟩
theorem rs_fl_6 {nC nS : Int} : rS zt_fl (SHc nC nS 6) (SHc nC nS 6) := ⟨rfl, rfl, (rE_cons (rK_R (by decide)) (rE_cons (rK_R (by decide)) (rE_cons (rK_R (by decide)) (rE_cons rK_I (rE_cons rK_I rE_nil)))))⟩
theorem rs_fl_7 {nC nS : Int} : rS zt_fl (SHc nC nS 7) (SHc nC nS 7) := ⟨rfl, rfl, (rE_cons (rK_R (by decide)) (rE_cons (rK_R (by decide)) (rE_cons (rK_R (by decide)) (rE_cons (rK_R (by decide)) (rE_cons (rK_R (by decide)) (rE_cons (rK_R (by decide)) (rE_cons (rK_R (by decide)) (rE_cons (rK_R (by decide)) (rE_cons (rK_R (by decide)) (rE_cons (rK_R (by decide)) (rE_cons (rK_R (by decide)) (rE_cons rK_I (rE_cons rK_I (rE_cons rK_I rE_nil))))))))))))))⟩
theorem rs_fl_8 {nC nS : Int} : rS zt_fl (SHc nC nS 8) (SHc nC nS 8) := ⟨rfl, rfl, (rE_cons (rK_R (by decide)) (rE_cons (rK_R (by decide)) (rE_cons (rK_R (by decide)) (rE_cons (rK_R (by decide)) (rE_cons (rK_R (by decide)) (rE_cons (rK_R (by decide)) (rE_cons (rK_R (by decide)) (rE_cons (rK_R (by decide)) (rE_cons (rK_R (by decide)) (rE_cons (rK_R (by decide)) (rE_cons (rK_R (by decide)) (rE_cons (rK_R (by decide)) (rE_cons rK_I (rE_cons rK_I (rE_cons rK_I (rE_cons rK_I (rE_cons rK_I rE_nil)))))))))))))))))⟩
theorem rs_fl_9 {nC nS : Int} : rS zt_fl (SHc nC nS 9) (SHc nC nS 9) := ⟨rfl, rfl, (rE_cons (rK_R (by decide)) (rE_cons (rK_R (by decide)) (rE_cons rK_I (rE_cons rK_I rE_nil))))⟩
theorem rs_fl_10 {nC nS : Int} : rS zt_fl (SHc nC nS 10) (SHc nC nS 10) := ⟨rfl, rfl, (rE_cons rK_I (rE_cons rK_I (rE_cons rK_I (rE_cons rK_I (rE_cons rK_I (rE_cons rK_I (rE_cons rK_I (rE_cons rK_I (rE_cons rK_I (rE_cons rK_I (rE_cons rK_I (rE_cons rK_I rE_nil))))))))))))⟩
theorem rs_fl_11 {nC nS : Int} : rS zt_fl (SHc nC nS 11) (SHc nC nS 11) := ⟨rfl, rfl, (rE_cons (rK_R (by decide)) (rE_cons (rK_R (by decide)) (rE_cons (rK_R (by decide)) (rE_cons (rK_R (by decide)) (rE_cons (rK_R (by decide)) (rE_cons (rK_R (by decide)) (rE_cons rK_I rE_nil)))))))⟩
theorem rs_fl_12 {nC nS : Int} : rS zt_fl (SHc nC nS 12) (SHc nC nS 12) := ⟨rfl, rfl, (rE_cons (rK_R (by decide)) (rE_cons (rK_R (by decide)) (rE_cons rK_I rE_nil)))⟩
theorem rs_fl_13 {nC nS : Int} : rS zt_fl (SHc nC nS 13) (SHc nC nS 13) := ⟨rfl, rfl, (rE_cons (rK_R (by decide)) (rE_cons (rK_R (by decide)) (rE_cons rK_I (rE_cons rK_I (rE_cons rK_I (rE_cons rK_I (rE_cons rK_I (rE_cons rK_I (rE_cons rK_I (rE_cons rK_I (rE_cons rK_I (rE_cons rK_I rE_nil))))))))))))⟩
theorem rs_fl_14 {nC nS : Int} : rS zt_fl (SHc nC nS 14) (SHc nC nS 14) := ⟨rfl, rfl, (rE_cons (rK_R (by decide)) (rE_cons (rK_R (by decide)) (rE_cons (rK_R (by decide)) (rE_cons (rK_R (by decide)) (rE_cons (rK_R (by decide)) (rE_cons (rK_R (by decide)) (rE_cons (rK_N (by decide)) (rE_cons rK_I (rE_cons rK_I rE_nil)))))))))⟩
theorem rs_fl_16 {nC nS : Int} : rS zt_fl (SHc nC nS 16) (SHc nC nS 16) := ⟨rfl, rfl, (rE_ga rK_I)⟩
theorem rs_fl_17 {nC nS : Int} : rS zt_fl (SHc nC nS 17) (SHc nC nS 17) := ⟨rfl, rfl, (rE_gnb (by decide))⟩
theorem rs_fl_18 {nC nS : Int} : rS zt_fl (SHc nC nS 18) (SHc nC nS 18) := ⟨rfl, rfl, (rE_ga (rK_R (by decide)))⟩
theorem rs_fl_19 {nC nS : Int} : rS zt_fl (SHc nC nS 19) (SHc nC nS 19) := ⟨rfl, rfl, (rE_ga rK_I)⟩
theorem rs_fl_20 {nC nS : Int} : rS zt_fl (SHc nC nS 20) (SHc nC nS 20) := ⟨rfl, rfl, (rE_ga rK_I)⟩
theorem rs_fl_21 {nC nS : Int} : rS zt_fl (SHc nC nS 21) (SHc nC nS 21) := ⟨rfl, rfl, (rE_ga rK_I)⟩
theorem rs_fl_22 {nC nS : Int} : rS zt_fl (SHc nC nS 22) (SHc nC nS 22) := ⟨rfl, rfl, (rE_ga rK_I)⟩
theorem rs_fl_23 {nC nS : Int} : rS zt_fl (SHc nC nS 23) (SHc nC nS 23) := ⟨rfl, rfl, (rE_ga rK_I)⟩
theorem rs_fl_24 {nC nS : Int} : rS zt_fl (SHc nC nS 24) (SHc nC nS 24) := ⟨rfl, rfl, (rE_ga rK_I)⟩
theorem rs_fl_25 {nC nS : Int} : rS zt_fl (SHc nC nS 25) (SHc nC nS 25) := ⟨rfl, rfl, (rE_ga rK_I)⟩
theorem rs_fl_26 {nC nS : Int} : rS zt_fl (SHc nC nS 26) (SHc nC nS 26) := ⟨rfl, rfl, (rE_ga rK_I)⟩
theorem rs_fl_27 {nC nS : Int} : rS zt_fl (SHc nC nS 27) (SHc nC nS 27) := ⟨rfl, rfl, (rE_ga rK_I)⟩
theorem rs_fl_28 {nC nS : Int} : rS zt_fl (SHc nC nS 28) (SHc nC nS 28) := ⟨rfl, rfl, (rE_ga rK_I)⟩
theorem rs_fl_29 {nC nS : Int} : rS zt_fl (SHc nC nS 29) (SHc nC nS 29) := ⟨rfl, rfl, (rE_ga rK_I)⟩
theorem rs_fl_30 {nC nS : Int} : rS zt_fl (SHc nC nS 30) (SHc nC nS 30) := ⟨rfl, rfl, (rE_ga rK_I)⟩
theorem rs_fl_31 {nC nS : Int} : rS zt_fl (SHc nC nS 31) (SHc nC nS 31) := ⟨rfl, rfl, (rE_ga rK_I)⟩
theorem rs_fl_32 {nC nS : Int} : rS zt_fl (SHc nC nS 32) (SHc nC nS 32) := ⟨rfl, rfl, (rE_ga rK_I)⟩
theorem rs_fl_33 {nC nS : Int} : rS zt_fl (SHc nC nS 33) (SHc nC nS 33) := ⟨rfl, rfl, (rE_ga rK_I)⟩
theorem rs_fl_34 {nC nS : Int} : rS zt_fl (SHc nC nS 34) (SHc nC nS 34) := ⟨rfl, rfl, (rE_ga rK_I)⟩
theorem rs_fl_35 {nC nS : Int} : rS zt_fl (SHc nC nS 35) (SHc nC nS 35) := ⟨rfl, rfl, (rE_ga rK_I)⟩
theorem rs_fl_36 {nC nS : Int} : rS zt_fl (SHc nC nS 36) (SHc nC nS 36) := ⟨rfl, rfl, (rE_ga rK_I)⟩
theorem rs_fl_37 {nC nS : Int} : rS zt_fl (SHc nC nS 37) (SHc nC nS 37) := ⟨rfl, rfl, (rE_ga rK_I)⟩
theorem rs_fl_38 {nC nS : Int} : rS zt_fl (SHc nC nS 38) (SHc nC nS 38) := ⟨rfl, rfl, (rE_ga rK_I)⟩
theorem rs_fl_39 {nC nS : Int} : rS zt_fl (SHc nC nS 39) (SHc nC nS 39) := ⟨rfl, rfl, (rE_ga rK_I)⟩
theorem rs_fl_40 {nC nS : Int} : rS zt_fl (SHc nC nS 40) (SHc nC nS 40) := ⟨rfl, rfl, (rE_ga rK_I)⟩
theorem rs_fl_41 {nC nS : Int} : rS zt_fl (SHc nC nS 41) (SHc nC nS 41) := ⟨rfl, rfl, (rE_ga rK_I)⟩
theorem rs_fl_42 {nC nS : Int} : rS zt_fl (SHc nC nS 42) (SHc nC nS 42) := ⟨rfl, rfl, (rE_ga rK_I)⟩
theorem rs_fl_43 {nC nS : Int} : rS zt_fl (SHc nC nS 43) (SHc nC nS 43) := ⟨rfl, rfl, (rE_ga rK_I)⟩
theorem rs_fl_44 {nC nS : Int} : rS zt_fl (SHc nC nS 44) (SHc nC nS 44) := ⟨rfl, rfl, (rE_ga rK_I)⟩
theorem rs_fl_45 {nC nS : Int} : rS zt_fl (SHc nC nS 45) (SHc nC nS 45) := ⟨rfl, rfl, (rE_ga rK_I)⟩
theorem rs_fl_46 {nC nS : Int} : rS zt_fl (SHc nC nS 46) (SHc nC nS 46) := ⟨rfl, rfl, (rE_ga rK_I)⟩
theorem rs_fl_47 {nC nS : Int} : rS zt_fl (SHc nC nS 47) (SHc nC nS 47) := ⟨rfl, rfl, (rE_ga rK_I)⟩
theorem rs_fl_48 {nC nS : Int} : rS zt_fl (SHc nC nS 48) (SHc nC nS 48) := ⟨rfl, rfl, (rE_ga rK_I)⟩
theorem rs_fl_49 {nC nS : Int} : rS zt_fl (SHc nC nS 49) (SHc nC nS 49) := ⟨rfl, rfl, (rE_ga rK_I)⟩
theorem rs_fl_50 {nC nS : Int} : rS zt_fl (SHc nC nS 50) (SHc nC nS 50) := ⟨rfl, rfl, (rE_ga rK_J)⟩
theorem rs_fl_51 {nC nS : Int} : rS zt_fl (SHc nC nS 51) (SHc nC nS 51) := ⟨rfl, rfl, (rE_gnb (by decide))⟩
theorem rs_fl_52 {nC nS : Int} : rS zt_fl (SHc nC nS 52) (SHc nC nS 52) := ⟨rfl, rfl, (rE_ga rK_I)⟩
theorem rs_fl_53 {nC nS : Int} : rS zt_fl (SHc nC nS 53) (SHc nC nS 53) := ⟨rfl, rfl, (rE_ga rK_I)⟩
theorem rs_fl_54 {nC nS : Int} : rS zt_fl (SHc nC nS 54) (SHc nC nS 54) := ⟨rfl, rfl, (rE_ga rK_I)⟩
theorem rs_fl_55 {nC nS : Int} : rS zt_fl (SHc nC nS 55) (SHc nC nS 55) := ⟨rfl, rfl, (rE_ga rK_I)⟩
theorem rs_fl_56 {nC nS : Int} : rS zt_fl (SHc nC nS 56) (SHc nC nS 56) := ⟨rfl, rfl, (rE_ga rK_J)⟩
theorem rs_fl_57 {nC nS : Int} : rS zt_fl (SHc nC nS 57) (SHc nC nS 57) := ⟨rfl, rfl, (rE_ga rK_I)⟩
theorem rs_fl_58 {nC nS : Int} : rS zt_fl (SHc nC nS 58) (SHc nC nS 58) := ⟨rfl, rfl, (rE_ga rK_I)⟩
theorem rs_fl_59 {nC nS : Int} : rS zt_fl (SHc nC nS 59) (SHc nC nS 59) := ⟨rfl, rfl, (rE_ga rK_I)⟩
theorem rs_fl_60 {nC nS : Int} : rS zt_fl (SHc nC nS 60) (SHc nC nS 60) := ⟨rfl, rfl, (rE_ga rK_I)⟩
theorem rs_fl_61 {nC nS : Int} : rS zt_fl (SHc nC nS 61) (SHc nC nS 61) := ⟨rfl, rfl, (rE_ga rK_I)⟩
theorem rs_fl_62 {nC nS : Int} : rS zt_fl (SHc nC nS 62) (SHc nC nS 62) := ⟨rfl, rfl, (rE_ga rK_I)⟩
theorem rs_fl_63 {nC nS : Int} : rS zt_fl (SHc nC nS 63) (SHc nC nS 63) := ⟨rfl, rfl, (rE_ga rK_I)⟩
theorem rs_fl_64 {nC nS : Int} : rS zt_fl (SHc nC nS 64) (SHc nC nS 64) := ⟨rfl, rfl, (rE_ga rK_I)⟩
theorem rs_fl_65 {nC nS : Int} : rS zt_fl (SHc nC nS 65) (SHc nC nS 65) := ⟨rfl, rfl, (rE_ga rK_I)⟩
theorem rs_fl_66 {nC nS : Int} : rS zt_fl (SHc nC nS 66) (SHc nC nS 66) := ⟨rfl, rfl, (rE_ga rK_I)⟩
theorem rs_fl_67 {nC nS : Int} : rS zt_fl (SHc nC nS 67) (SHc nC nS 67) := ⟨rfl, rfl, (rE_ga rK_I)⟩
theorem rs_fl_68 {nC nS : Int} : rS zt_fl (SHc nC nS 68) (SHc nC nS 68) := ⟨rfl, rfl, (rE_ga rK_I)⟩
theorem rs_fl_69 {nC nS : Int} : rS zt_fl (SHc nC nS 69) (SHc nC nS 69) := ⟨rfl, rfl, (rE_ga rK_I)⟩
theorem rs_fl_70 {nC nS : Int} : rS zt_fl (SHc nC nS 70) (SHc nC nS 70) := ⟨rfl, rfl, (rE_ga (rK_R (by decide)))⟩
theorem rs_fl_71 {nC nS : Int} : rS zt_fl (SHc nC nS 71) (SHc nC nS 71) := ⟨rfl, rfl, (rE_ga rK_I)⟩
theorem rs_fl_72 {nC nS : Int} : rS zt_fl (SHc nC nS 72) (SHc nC nS 72) := ⟨rfl, rfl, (rE_ga rK_I)⟩
theorem rs_fl_73 {nC nS : Int} : rS zt_fl (SHc nC nS 73) (SHc nC nS 73) := ⟨rfl, rfl, (rE_ga rK_I)⟩
theorem rs_fl_74 {nC nS : Int} : rS zt_fl (SHc nC nS 74) (SHc nC nS 74) := ⟨rfl, rfl, (rE_ga rK_I)⟩
theorem rs_fl_75 {nC nS : Int} : rS zt_fl (SHc nC nS 75) (SHc nC nS 75) := ⟨rfl, rfl, (rE_ga rK_I)⟩
theorem rs_fl_76 {nC nS : Int} : rS zt_fl (SHc nC nS 76) (SHc nC nS 76) := ⟨rfl, rfl, (rE_ga rK_I)⟩
theorem rs_fl_77 {nC nS : Int} : rS zt_fl (SHc nC nS 77) (SHc nC nS 77) := ⟨rfl, rfl, (rE_ga rK_I)⟩
theorem rs_fl_78 {nC nS : Int} : rS zt_fl (SHc nC nS 78) (SHc nC nS 78) := ⟨rfl, rfl, (rE_ga rK_I)⟩
theorem rs_fl_79 {nC nS : Int} : rS zt_fl (SHc nC nS 79) (SHc nC nS 79) := ⟨rfl, rfl, (rE_ga rK_I)⟩
theorem rs_fl_80 {nC nS : Int} : rS zt_fl (SHc nC nS 80) (SHc nC nS 80) := ⟨rfl, rfl, (rE_ga rK_I)⟩
theorem rs_fl_81 {nC nS : Int} : rS zt_fl (SHc nC nS 81) (SHc nC nS 81) := ⟨rfl, rfl, (rE_ga rK_I)⟩
theorem rs_fl_82 {nC nS : Int} : rS zt_fl (SHc nC nS 82) (SHc nC nS 82) := ⟨rfl, rfl, (rE_ga rK_I)⟩
theorem rs_fl_83 {nC nS : Int} : rS zt_fl (SHc nC nS 83) (SHc nC nS 83) := ⟨rfl, rfl, (rE_ga rK_I)⟩
theorem rs_fl_84 {nC nS : Int} : rS zt_fl (SHc nC nS 84) (SHc nC nS 84) := ⟨rfl, rfl, (rE_ga rK_I)⟩
theorem rs_fl_85 {nC nS : Int} : rS zt_fl (SHc nC nS 85) (SHc nC nS 85) := ⟨rfl, rfl, (rE_ga rK_I)⟩
theorem rs_fl_86 {nC nS : Int} : rS zt_fl (SHc nC nS 86) (SHc nC nS 86) := ⟨rfl, rfl, (rE_ga rK_I)⟩
theorem rs_fl_87 {nC nS : Int} : rS zt_fl (SHc nC nS 87) (SHc nC nS 87) := ⟨rfl, rfl, (rE_ga rK_I)⟩
theorem rs_fl_88 {nC nS : Int} : rS zt_fl (SHc nC nS 88) (SHc nC nS 88) := ⟨rfl, rfl, (rE_ga rK_I)⟩
theorem rs_fl_89 {nC nS : Int} : rS zt_fl (SHc nC nS 89) (SHc nC nS 89) := ⟨rfl, rfl, (rE_ga rK_I)⟩
theorem rs_fl_90 {nC nS : Int} : rS zt_fl (SHc nC nS 90) (SHc nC nS 90) := ⟨rfl, rfl, (rE_cons (rK_R (by decide)) (rE_cons (rK_R (by decide)) (rE_cons (rK_R (by decide)) (rE_cons rK_I (rE_cons rK_I rE_nil)))))⟩
theorem rs_fl_91 {nC nS : Int} : rS zt_fl (SHc nC nS 91) (SHc nC nS 91) := ⟨rfl, rfl, (rE_cons (rK_R (by decide)) (rE_cons (rK_R (by decide)) (rE_cons (rK_R (by decide)) (rE_cons (rK_R (by decide)) (rE_cons (rK_R (by decide)) (rE_cons (rK_R (by decide)) (rE_cons rK_I rE_nil)))))))⟩
theorem rs_fl_92 {nC nS : Int} : rS zt_fl (SHc nC nS 92) (SHc nC nS 92) := ⟨rfl, rfl, (rE_cons (rK_R (by decide)) (rE_cons (rK_R (by decide)) (rE_cons rK_I rE_nil)))⟩
theorem rs_fl_93 {nC nS : Int} : rS zt_fl (SHc nC nS 93) (SHc nC nS 93) := ⟨rfl, rfl, (rE_cons (rK_R (by decide)) (rE_cons (rK_R (by decide)) (rE_cons (rK_R (by decide)) (rE_cons (rK_R (by decide)) (rE_cons (rK_R (by decide)) (rE_cons (rK_R (by decide)) (rE_cons (rK_R (by decide)) (rE_cons (rK_R (by decide)) (rE_cons (rK_R (by decide)) (rE_cons (rK_R (by decide)) (rE_cons (rK_R (by decide)) (rE_cons rK_I (rE_cons rK_I (rE_cons rK_I (rE_cons rK_I rE_nil)))))))))))))))⟩
theorem rs_fl_94 {nC nS : Int} : rS zt_fl (SHc nC nS 94) (SHc nC nS 94) := ⟨rfl, rfl, (rE_cons (rK_R (by decide)) (rE_cons (rK_R (by decide)) (rE_cons rK_I (rE_cons rK_I (rE_cons rK_I (rE_cons rK_I (rE_cons rK_I (rE_cons rK_I (rE_cons rK_I (rE_cons rK_I (rE_cons rK_I (rE_cons rK_I rE_nil))))))))))))⟩
theorem rs_fl_98 {nC nS : Int} : rS zt_fl (SHc nC nS 98) (SHc nC nS 98) := ⟨rfl, rfl, (rE_ga rK_J)⟩
theorem rs_fl_140 {nC nS : Int} : rS zt_fl (SHc nC nS 140) (SHc nC nS 140) := ⟨rfl, rfl, (rE_cons (rK_R (by decide)) (rE_cons (rK_R (by decide)) (rE_cons (rK_R (by decide)) (rE_cons (rK_R (by decide)) (rE_cons (rK_R (by decide)) (rE_cons (rK_R (by decide)) (rE_cons (rK_R (by decide)) (rE_cons (rK_R (by decide)) (rE_cons (rK_R (by decide)) (rE_cons (rK_R (by decide)) (rE_cons (rK_R (by decide)) (rE_cons rK_I (rE_cons rK_I (rE_cons rK_I rE_nil))))))))))))))⟩
theorem rs_fl_141 {nC nS : Int} : rS zt_fl (SHc nC nS 141) (SHc nC nS 141) := ⟨rfl, rfl, (rE_ga rK_I)⟩
theorem rs_fl_142 {nC nS : Int} : rS zt_fl (SHc nC nS 142) (SHc nC nS 142) := ⟨rfl, rfl, (rE_ga rK_I)⟩
theorem rs_fl_143 {nC nS : Int} : rS zt_fl (SHc nC nS 143) (SHc nC nS 143) := ⟨rfl, rfl, (rE_ga rK_I)⟩
theorem rs_fl_144 {nC nS : Int} : rS zt_fl (SHc nC nS 144) (SHc nC nS 144) := ⟨rfl, rfl, (rE_ga rK_I)⟩
theorem rs_fl_145 {nC nS : Int} : rS zt_fl (SHc nC nS 145) (SHc nC nS 145) := ⟨rfl, rfl, (rE_ga rK_I)⟩
theorem rs_fl_146 {nC nS : Int} : rS zt_fl (SHc nC nS 146) (SHc nC nS 146) := ⟨rfl, rfl, (rE_ga rK_I)⟩
theorem rs_fl_147 {nC nS : Int} : rS zt_fl (SHc nC nS 147) (SHc nC nS 147) := ⟨rfl, rfl, (rE_ga rK_I)⟩
theorem rs_fl_148 {nC nS : Int} : rS zt_fl (SHc nC nS 148) (SHc nC nS 148) := ⟨rfl, rfl, (rE_ga rK_I)⟩
theorem rs_fl_149 {nC nS : Int} : rS zt_fl (SHc nC nS 149) (SHc nC nS 149) := ⟨rfl, rfl, (rE_ga rK_I)⟩
theorem rs_fl_150 {nC nS : Int} : rS zt_fl (SHc nC nS 150) (SHc nC nS 150) := ⟨rfl, rfl, (rE_ga rK_I)⟩
theorem rs_fl_151 {nC nS : Int} : rS zt_fl (SHc nC nS 151) (SHc nC nS 151) := ⟨rfl, rfl, (rE_ga rK_J)⟩
theorem rs_fl_152 {nC nS : Int} : rS zt_fl (SHc nC nS 152) (SHc nC nS 152) := ⟨rfl, rfl, (rE_cons (rK_R (by decide)) (rE_cons (rK_R (by decide)) (rE_cons (rK_R (by decide)) (rE_cons (rK_R (by decide)) (rE_cons (rK_R (by decide)) (rE_cons (rK_R (by decide)) (rE_cons (rK_R (by decide)) (rE_cons (rK_R (by decide)) (rE_cons (rK_R (by decide)) (rE_cons (rK_R (by decide)) (rE_cons (rK_R (by decide)) (rE_cons rK_I (rE_cons rK_I (rE_cons rK_I rE_nil))))))))))))))⟩
theorem rs_fl_153 {nC nS : Int} : rS zt_fl (SHc nC nS 153) (SHc nC nS 153) := ⟨rfl, rfl, (rE_ga rK_I)⟩
theorem rs_fl_154 {nC nS : Int} : rS zt_fl (SHc nC nS 154) (SHc nC nS 154) := ⟨rfl, rfl, (rE_ga rK_I)⟩
theorem rs_fl_155 {nC nS : Int} : rS zt_fl (SHc nC nS 155) (SHc nC nS 155) := ⟨rfl, rfl, (rE_ga rK_I)⟩
theorem rs_fl_156 {nC nS : Int} : rS zt_fl (SHc nC nS 156) (SHc nC nS 156) := ⟨rfl, rfl, (rE_ga rK_I)⟩
theorem rs_fl_157 {nC nS : Int} : rS zt_fl (SHc nC nS 157) (SHc nC nS 157) := ⟨rfl, rfl, (rE_ga rK_I)⟩
theorem rs_fl_158 {nC nS : Int} : rS zt_fl (SHc nC nS 158) (SHc nC nS 158) := ⟨rfl, rfl, (rE_ga rK_I)⟩
theorem rs_fl_159 {nC nS : Int} : rS zt_fl (SHc nC nS 159) (SHc nC nS 159) := ⟨rfl, rfl, (rE_ga rK_I)⟩
theorem rs_fl_160 {nC nS : Int} : rS zt_fl (SHc nC nS 160) (SHc nC nS 160) := ⟨rfl, rfl, (rE_ga rK_I)⟩
theorem rs_fl_161 {nC nS : Int} : rS zt_fl (SHc nC nS 161) (SHc nC nS 161) := ⟨rfl, rfl, (rE_ga rK_I)⟩
theorem rs_fl_162 {nC nS : Int} : rS zt_fl (SHc nC nS 162) (SHc nC nS 162) := ⟨rfl, rfl, (rE_ga rK_I)⟩
theorem rs_fl_163 {nC nS : Int} : rS zt_fl (SHc nC nS 163) (SHc nC nS 163) := ⟨rfl, rfl, (rE_ga rK_J)⟩
set_option maxRecDepth 100000 in
theorem rs_fl {nC nS : Int} : ∀ t u, zt_fl t = some u → rS zt_fl (SHc nC nS t) (SHc nC nS u) := by
  intro t u h
  have h := zt_m h
  rcases List.mem_cons.mp h with h | h
  · obtain ⟨rfl, rfl⟩ := Prod.mk.inj h
    exact rs_fl_3
  rcases List.mem_cons.mp h with h | h
  · obtain ⟨rfl, rfl⟩ := Prod.mk.inj h
    exact rs_fl_4
  rcases List.mem_cons.mp h with h | h
  · obtain ⟨rfl, rfl⟩ := Prod.mk.inj h
    exact rs_fl_5
  rcases List.mem_cons.mp h with h | h
  · obtain ⟨rfl, rfl⟩ := Prod.mk.inj h
    exact rs_fl_6
  rcases List.mem_cons.mp h with h | h
  · obtain ⟨rfl, rfl⟩ := Prod.mk.inj h
    exact rs_fl_7
  rcases List.mem_cons.mp h with h | h
  · obtain ⟨rfl, rfl⟩ := Prod.mk.inj h
    exact rs_fl_8
  rcases List.mem_cons.mp h with h | h
  · obtain ⟨rfl, rfl⟩ := Prod.mk.inj h
    exact rs_fl_9
  rcases List.mem_cons.mp h with h | h
  · obtain ⟨rfl, rfl⟩ := Prod.mk.inj h
    exact rs_fl_10
  rcases List.mem_cons.mp h with h | h
  · obtain ⟨rfl, rfl⟩ := Prod.mk.inj h
    exact rs_fl_11
  rcases List.mem_cons.mp h with h | h
  · obtain ⟨rfl, rfl⟩ := Prod.mk.inj h
    exact rs_fl_12
  rcases List.mem_cons.mp h with h | h
  · obtain ⟨rfl, rfl⟩ := Prod.mk.inj h
    exact rs_fl_13
  rcases List.mem_cons.mp h with h | h
  · obtain ⟨rfl, rfl⟩ := Prod.mk.inj h
    exact rs_fl_14
  rcases List.mem_cons.mp h with h | h
  · obtain ⟨rfl, rfl⟩ := Prod.mk.inj h
    exact rs_fl_16
  rcases List.mem_cons.mp h with h | h
  · obtain ⟨rfl, rfl⟩ := Prod.mk.inj h
    exact rs_fl_17
  rcases List.mem_cons.mp h with h | h
  · obtain ⟨rfl, rfl⟩ := Prod.mk.inj h
    exact rs_fl_18
  rcases List.mem_cons.mp h with h | h
  · obtain ⟨rfl, rfl⟩ := Prod.mk.inj h
    exact rs_fl_19
  rcases List.mem_cons.mp h with h | h
  · obtain ⟨rfl, rfl⟩ := Prod.mk.inj h
    exact rs_fl_20
  rcases List.mem_cons.mp h with h | h
  · obtain ⟨rfl, rfl⟩ := Prod.mk.inj h
    exact rs_fl_21
  rcases List.mem_cons.mp h with h | h
  · obtain ⟨rfl, rfl⟩ := Prod.mk.inj h
    exact rs_fl_22
  rcases List.mem_cons.mp h with h | h
  · obtain ⟨rfl, rfl⟩ := Prod.mk.inj h
    exact rs_fl_23
  rcases List.mem_cons.mp h with h | h
  · obtain ⟨rfl, rfl⟩ := Prod.mk.inj h
    exact rs_fl_24
  rcases List.mem_cons.mp h with h | h
  · obtain ⟨rfl, rfl⟩ := Prod.mk.inj h
    exact rs_fl_25
  rcases List.mem_cons.mp h with h | h
  · obtain ⟨rfl, rfl⟩ := Prod.mk.inj h
    exact rs_fl_26
  rcases List.mem_cons.mp h with h | h
  · obtain ⟨rfl, rfl⟩ := Prod.mk.inj h
    exact rs_fl_27
  rcases List.mem_cons.mp h with h | h
  · obtain ⟨rfl, rfl⟩ := Prod.mk.inj h
    exact rs_fl_28
  rcases List.mem_cons.mp h with h | h
  · obtain ⟨rfl, rfl⟩ := Prod.mk.inj h
    exact rs_fl_29
  rcases List.mem_cons.mp h with h | h
  · obtain ⟨rfl, rfl⟩ := Prod.mk.inj h
    exact rs_fl_30
  rcases List.mem_cons.mp h with h | h
  · obtain ⟨rfl, rfl⟩ := Prod.mk.inj h
    exact rs_fl_31
  rcases List.mem_cons.mp h with h | h
  · obtain ⟨rfl, rfl⟩ := Prod.mk.inj h
    exact rs_fl_32
  rcases List.mem_cons.mp h with h | h
  · obtain ⟨rfl, rfl⟩ := Prod.mk.inj h
    exact rs_fl_33
  rcases List.mem_cons.mp h with h | h
  · obtain ⟨rfl, rfl⟩ := Prod.mk.inj h
    exact rs_fl_34
  rcases List.mem_cons.mp h with h | h
  · obtain ⟨rfl, rfl⟩ := Prod.mk.inj h
    exact rs_fl_35
  rcases List.mem_cons.mp h with h | h
  · obtain ⟨rfl, rfl⟩ := Prod.mk.inj h
    exact rs_fl_36
  rcases List.mem_cons.mp h with h | h
  · obtain ⟨rfl, rfl⟩ := Prod.mk.inj h
    exact rs_fl_37
  rcases List.mem_cons.mp h with h | h
  · obtain ⟨rfl, rfl⟩ := Prod.mk.inj h
    exact rs_fl_38
  rcases List.mem_cons.mp h with h | h
  · obtain ⟨rfl, rfl⟩ := Prod.mk.inj h
    exact rs_fl_39
  rcases List.mem_cons.mp h with h | h
  · obtain ⟨rfl, rfl⟩ := Prod.mk.inj h
    exact rs_fl_40
  rcases List.mem_cons.mp h with h | h
  · obtain ⟨rfl, rfl⟩ := Prod.mk.inj h
    exact rs_fl_41
  rcases List.mem_cons.mp h with h | h
  · obtain ⟨rfl, rfl⟩ := Prod.mk.inj h
    exact rs_fl_42
  rcases List.mem_cons.mp h with h | h
  · obtain ⟨rfl, rfl⟩ := Prod.mk.inj h
    exact rs_fl_43
  rcases List.mem_cons.mp h with h | h
  · obtain ⟨rfl, rfl⟩ := Prod.mk.inj h
    exact rs_fl_44
  rcases List.mem_cons.mp h with h | h
  · obtain ⟨rfl, rfl⟩ := Prod.mk.inj h
    exact rs_fl_45
  rcases List.mem_cons.mp h with h | h
  · obtain ⟨rfl, rfl⟩ := Prod.mk.inj h
    exact rs_fl_46
  rcases List.mem_cons.mp h with h | h
  · obtain ⟨rfl, rfl⟩ := Prod.mk.inj h
    exact rs_fl_47
  rcases List.mem_cons.mp h with h | h
  · obtain ⟨rfl, rfl⟩ := Prod.mk.inj h
    exact rs_fl_48
  rcases List.mem_cons.mp h with h | h
  · obtain ⟨rfl, rfl⟩ := Prod.mk.inj h
    exact rs_fl_49
  rcases List.mem_cons.mp h with h | h
  · obtain ⟨rfl, rfl⟩ := Prod.mk.inj h
    exact rs_fl_50
  rcases List.mem_cons.mp h with h | h
  · obtain ⟨rfl, rfl⟩ := Prod.mk.inj h
    exact rs_fl_51
  rcases List.mem_cons.mp h with h | h
  · obtain ⟨rfl, rfl⟩ := Prod.mk.inj h
    exact rs_fl_52
  rcases List.mem_cons.mp h with h | h
  · obtain ⟨rfl, rfl⟩ := Prod.mk.inj h
    exact rs_fl_53
  rcases List.mem_cons.mp h with h | h
  · obtain ⟨rfl, rfl⟩ := Prod.mk.inj h
    exact rs_fl_54
  rcases List.mem_cons.mp h with h | h
  · obtain ⟨rfl, rfl⟩ := Prod.mk.inj h
    exact rs_fl_55
  rcases List.mem_cons.mp h with h | h
  · obtain ⟨rfl, rfl⟩ := Prod.mk.inj h
    exact rs_fl_56
  rcases List.mem_cons.mp h with h | h
  · obtain ⟨rfl, rfl⟩ := Prod.mk.inj h
    exact rs_fl_57
  rcases List.mem_cons.mp h with h | h
  · obtain ⟨rfl, rfl⟩ := Prod.mk.inj h
    exact rs_fl_58
  rcases List.mem_cons.mp h with h | h
  · obtain ⟨rfl, rfl⟩ := Prod.mk.inj h
    exact rs_fl_59
  rcases List.mem_cons.mp h with h | h
  · obtain ⟨rfl, rfl⟩ := Prod.mk.inj h
    exact rs_fl_60
  rcases List.mem_cons.mp h with h | h
  · obtain ⟨rfl, rfl⟩ := Prod.mk.inj h
    exact rs_fl_61
  rcases List.mem_cons.mp h with h | h
  · obtain ⟨rfl, rfl⟩ := Prod.mk.inj h
    exact rs_fl_62
  rcases List.mem_cons.mp h with h | h
  · obtain ⟨rfl, rfl⟩ := Prod.mk.inj h
    exact rs_fl_63
  rcases List.mem_cons.mp h with h | h
  · obtain ⟨rfl, rfl⟩ := Prod.mk.inj h
    exact rs_fl_64
  rcases List.mem_cons.mp h with h | h
  · obtain ⟨rfl, rfl⟩ := Prod.mk.inj h
    exact rs_fl_65
  rcases List.mem_cons.mp h with h | h
  · obtain ⟨rfl, rfl⟩ := Prod.mk.inj h
    exact rs_fl_66
  rcases List.mem_cons.mp h with h | h
  · obtain ⟨rfl, rfl⟩ := Prod.mk.inj h
    exact rs_fl_67
  rcases List.mem_cons.mp h with h | h
  · obtain ⟨rfl, rfl⟩ := Prod.mk.inj h
    exact rs_fl_68
  rcases List.mem_cons.mp h with h | h
  · obtain ⟨rfl, rfl⟩ := Prod.mk.inj h
    exact rs_fl_69
  rcases List.mem_cons.mp h with h | h
  · obtain ⟨rfl, rfl⟩ := Prod.mk.inj h
    exact rs_fl_70
  rcases List.mem_cons.mp h with h | h
  · obtain ⟨rfl, rfl⟩ := Prod.mk.inj h
    exact rs_fl_71
  rcases List.mem_cons.mp h with h | h
  · obtain ⟨rfl, rfl⟩ := Prod.mk.inj h
    exact rs_fl_72
  rcases List.mem_cons.mp h with h | h
  · obtain ⟨rfl, rfl⟩ := Prod.mk.inj h
    exact rs_fl_73
  rcases List.mem_cons.mp h with h | h
  · obtain ⟨rfl, rfl⟩ := Prod.mk.inj h
    exact rs_fl_74
  rcases List.mem_cons.mp h with h | h
  · obtain ⟨rfl, rfl⟩ := Prod.mk.inj h
    exact rs_fl_75
  rcases List.mem_cons.mp h with h | h
  · obtain ⟨rfl, rfl⟩ := Prod.mk.inj h
    exact rs_fl_76
  rcases List.mem_cons.mp h with h | h
  · obtain ⟨rfl, rfl⟩ := Prod.mk.inj h
    exact rs_fl_77
  rcases List.mem_cons.mp h with h | h
  · obtain ⟨rfl, rfl⟩ := Prod.mk.inj h
    exact rs_fl_78
  rcases List.mem_cons.mp h with h | h
  · obtain ⟨rfl, rfl⟩ := Prod.mk.inj h
    exact rs_fl_79
  rcases List.mem_cons.mp h with h | h
  · obtain ⟨rfl, rfl⟩ := Prod.mk.inj h
    exact rs_fl_80
  rcases List.mem_cons.mp h with h | h
  · obtain ⟨rfl, rfl⟩ := Prod.mk.inj h
    exact rs_fl_81
  rcases List.mem_cons.mp h with h | h
  · obtain ⟨rfl, rfl⟩ := Prod.mk.inj h
    exact rs_fl_82
  rcases List.mem_cons.mp h with h | h
  · obtain ⟨rfl, rfl⟩ := Prod.mk.inj h
    exact rs_fl_83
  rcases List.mem_cons.mp h with h | h
  · obtain ⟨rfl, rfl⟩ := Prod.mk.inj h
    exact rs_fl_84
  rcases List.mem_cons.mp h with h | h
  · obtain ⟨rfl, rfl⟩ := Prod.mk.inj h
    exact rs_fl_85
  rcases List.mem_cons.mp h with h | h
  · obtain ⟨rfl, rfl⟩ := Prod.mk.inj h
    exact rs_fl_86
  rcases List.mem_cons.mp h with h | h
  · obtain ⟨rfl, rfl⟩ := Prod.mk.inj h
    exact rs_fl_87
  rcases List.mem_cons.mp h with h | h
  · obtain ⟨rfl, rfl⟩ := Prod.mk.inj h
    exact rs_fl_88
  rcases List.mem_cons.mp h with h | h
  · obtain ⟨rfl, rfl⟩ := Prod.mk.inj h
    exact rs_fl_89
  rcases List.mem_cons.mp h with h | h
  · obtain ⟨rfl, rfl⟩ := Prod.mk.inj h
    exact rs_fl_90
  rcases List.mem_cons.mp h with h | h
  · obtain ⟨rfl, rfl⟩ := Prod.mk.inj h
    exact rs_fl_91
  rcases List.mem_cons.mp h with h | h
  · obtain ⟨rfl, rfl⟩ := Prod.mk.inj h
    exact rs_fl_92
  rcases List.mem_cons.mp h with h | h
  · obtain ⟨rfl, rfl⟩ := Prod.mk.inj h
    exact rs_fl_93
  rcases List.mem_cons.mp h with h | h
  · obtain ⟨rfl, rfl⟩ := Prod.mk.inj h
    exact rs_fl_94
  rcases List.mem_cons.mp h with h | h
  · obtain ⟨rfl, rfl⟩ := Prod.mk.inj h
    exact rs_fl_98
  rcases List.mem_cons.mp h with h | h
  · obtain ⟨rfl, rfl⟩ := Prod.mk.inj h
    exact rs_fl_140
  rcases List.mem_cons.mp h with h | h
  · obtain ⟨rfl, rfl⟩ := Prod.mk.inj h
    exact rs_fl_141
  rcases List.mem_cons.mp h with h | h
  · obtain ⟨rfl, rfl⟩ := Prod.mk.inj h
    exact rs_fl_142
  rcases List.mem_cons.mp h with h | h
  · obtain ⟨rfl, rfl⟩ := Prod.mk.inj h
    exact rs_fl_143
  rcases List.mem_cons.mp h with h | h
  · obtain ⟨rfl, rfl⟩ := Prod.mk.inj h
    exact rs_fl_144
  rcases List.mem_cons.mp h with h | h
  · obtain ⟨rfl, rfl⟩ := Prod.mk.inj h
    exact rs_fl_145
  rcases List.mem_cons.mp h with h | h
  · obtain ⟨rfl, rfl⟩ := Prod.mk.inj h
    exact rs_fl_146
  rcases List.mem_cons.mp h with h | h
  · obtain ⟨rfl, rfl⟩ := Prod.mk.inj h
    exact rs_fl_147
  rcases List.mem_cons.mp h with h | h
  · obtain ⟨rfl, rfl⟩ := Prod.mk.inj h
    exact rs_fl_148
  rcases List.mem_cons.mp h with h | h
  · obtain ⟨rfl, rfl⟩ := Prod.mk.inj h
    exact rs_fl_149
  rcases List.mem_cons.mp h with h | h
  · obtain ⟨rfl, rfl⟩ := Prod.mk.inj h
    exact rs_fl_150
  rcases List.mem_cons.mp h with h | h
  · obtain ⟨rfl, rfl⟩ := Prod.mk.inj h
    exact rs_fl_151
  rcases List.mem_cons.mp h with h | h
  · obtain ⟨rfl, rfl⟩ := Prod.mk.inj h
    exact rs_fl_152
  rcases List.mem_cons.mp h with h | h
  · obtain ⟨rfl, rfl⟩ := Prod.mk.inj h
    exact rs_fl_153
  rcases List.mem_cons.mp h with h | h
  · obtain ⟨rfl, rfl⟩ := Prod.mk.inj h
    exact rs_fl_154
  rcases List.mem_cons.mp h with h | h
  · obtain ⟨rfl, rfl⟩ := Prod.mk.inj h
    exact rs_fl_155
  rcases List.mem_cons.mp h with h | h
  · obtain ⟨rfl, rfl⟩ := Prod.mk.inj h
    exact rs_fl_156
  rcases List.mem_cons.mp h with h | h
  · obtain ⟨rfl, rfl⟩ := Prod.mk.inj h
    exact rs_fl_157
  rcases List.mem_cons.mp h with h | h
  · obtain ⟨rfl, rfl⟩ := Prod.mk.inj h
    exact rs_fl_158
  rcases List.mem_cons.mp h with h | h
  · obtain ⟨rfl, rfl⟩ := Prod.mk.inj h
    exact rs_fl_159
  rcases List.mem_cons.mp h with h | h
  · obtain ⟨rfl, rfl⟩ := Prod.mk.inj h
    exact rs_fl_160
  rcases List.mem_cons.mp h with h | h
  · obtain ⟨rfl, rfl⟩ := Prod.mk.inj h
    exact rs_fl_161
  rcases List.mem_cons.mp h with h | h
  · obtain ⟨rfl, rfl⟩ := Prod.mk.inj h
    exact rs_fl_162
  rcases List.mem_cons.mp h with h | h
  · obtain ⟨rfl, rfl⟩ := Prod.mk.inj h
    exact rs_fl_163
  exact absurd h List.not_mem_nil
def w_c_joinedZ : List Cond := .code yX4_joined cX4_joined 5 (some .long) :: (HAppend.hAppend (α := List Cond) (β := List Cond) (γ := List Cond) [.methodLink RX4 199 Lib.MathLoose.max_long.x, .static Lib.MathLoose.max_long.x, .initialized "java/lang/Math", .code Lib.MathLoose.max_long.x Lib.MathLoose.max_long.code 4 (some .long)] bs2)
set_option maxHeartbeats 4000000 in
set_option maxRecDepth 100000 in
theorem c_joinedZ (l : Launch) (dC : Nat → ClassId) (dI : Nat → Nat → Nat) (kA : Nat → ClassId) (adK adV : Nat → Nat) (G : gT) (H0 : Heap) (nC nS : Int) (p0 : Int32) (p1 : Int64) (p2 : Int64)  (hT : gH (dC, dI) kA (SHc nC nS) G H0) (hgC : 0 ≤ nC ∧ nC ≤ 40) (hgS : 0 ≤ nS ∧ nS ≤ 60) : Met l yX4_joined w_c_joinedZ ({ frames := 1, cells := 0, slots := 0, locals := 40 }) (va_Pc [.int p0, .long p1, .long p2] (fun U => U.heap = H0 ∧ va_K (dC, dI) vwCl (tyl kA) U ∧ EVC adK adV (gA G H0.size) U U.heap)) (va_Ql (fun (r : Int64) (u : Unit) => (r = zjn p0.toInt p1 p2)) (fun (_ : Unit) (t : State) => gH (dC, dI) kA (SHc nC nS) G t.heap ∧ gF (dC, dI) SKc G ([] : List (Nat × Nat)) H0 t.heap) (gA G H0.size)) 0 0 (gA G H0.size) := by
  refine Met.ofW (cc := cX4_joined) (maxL := 5) (ret := (some .long)) (by decide) rfl ?_
  intro p e s m args below meth c s₁ B hml hv
  obtain ⟨rfl, hH0, hK, hE⟩ := hv
  have hx := B.exec
  have hb := B.bytes
  have hr := B.returns
  have hts := atoms_spec (ws := w_c_joinedZ) B.pre
  have hown : s.vm.findClass RX4 = some m.cls := findClass_of_methodNamed B.named
  have hlocks := B.notSynchronized
  subst hH0
  generalize hAe : gA G s.heap.size = A at hE ⊢
  have hA : ∀ q : Nat, s.heap.size ≤ q → A q := fun q h => by rw [← hAe]; exact Or.inr h
  have hG := gA_of hAe
  have hS : va_S A s.heap s.heap [] := va_S.rf
  have hF : gF (dC, dI) SKc G ([] : List (Nat × Nat)) s.heap s.heap := gF.rf
  have hl := lv_entry ([.int p0, .long p1, .long p2]) (n := 5) (Nat.le_of_ble_eq_true rfl)
  rw [lg_entry_eq]
  generalize (lg_sl ([.int p0, .long p1, .long p2]) ++ List.replicate (5 - (lg_sl ([.int p0, .long p1, .long p2])).length) Slot.unset).toArray = ls at hl ⊢
  have hl : lv_has ls 5 [(0, .int p0), (1, .long p1), (3, .long p2)] := hl
  refine lv_iload_n hx hb dX4_joined_0 rfl (lv_at hl 0 rfl) ?_
  by_cases hs1 : p0 = 10
  · subst hs1
    refine lv_tableIn (x := 10) (off := 35) (tgt := 36) hx hb dX4_joined_1 (by decide) (by decide) (by decide) (by decide) ?_
    refine lv_lload_n hx hb dX4_joined_36 rfl (lv_at hl 1 rfl) ?_
    refine lv_lload_n hx hb dX4_joined_37 rfl (lv_at hl 2 rfl) ?_
    refine lv_ladd hx hb dX4_joined_38 ?_
    refine lv_topl (fun y2 ey2 => ?_)
    exact W.lret (v := y2) hx hb hr (fun t ht hW => ⟨⟨y2, (), rfl, (by exact (ey2.trans (zjn_10 (by decide)).symm)), by (try dsimp only); rw [ht]; exact ⟨hT, hF⟩⟩, hS.F ht⟩) hS.2.2 dX4_joined_39
  by_cases hs3 : p0 = 11
  · subst hs3
    refine lv_tableIn (x := 11) (off := 39) (tgt := 40) hx hb dX4_joined_1 (by decide) (by decide) (by decide) (by decide) ?_
    refine lv_lload_n hx hb dX4_joined_40 rfl (lv_at hl 1 rfl) ?_
    refine lv_lload_n hx hb dX4_joined_41 rfl (lv_at hl 2 rfl) ?_
    refine W.lcmp hx hb dX4_joined_42 ?_
    refine lv_topi (fun x4 ex4 => ?_)
    have t5 : (p1.toInt < p2.toInt ∧ x4.toInt = -1) ∨ (p1.toInt = p2.toInt ∧ x4.toInt = 0) ∨ (p2.toInt < p1.toInt ∧ x4.toInt = 1) := tl_c ex4 rfl rfl
    refine lv_if_ge (tgt := 50) hx hb dX4_joined_43 (by decide) (fun c6 => ?_) (fun c6 => ?_)
    · have t7 : 0 ≤ x4.toInt := ti_le c6 (by decide) rfl
      refine lv_lconst (v := 0) hx hb dX4_joined_50 (by decide) ?_
      exact W.lret (v := 0) hx hb hr (fun t ht hW => ⟨⟨0, (), rfl, (by exact ((zjn_11 (by decide)).2 (by omega)).symm), by (try dsimp only); rw [ht]; exact ⟨hT, hF⟩⟩, hS.F ht⟩) hS.2.2 dX4_joined_51
    · have t8 : x4.toInt < 0 := ti_nle c6 (by decide) rfl
      refine lv_lconst (v := 1) hx hb dX4_joined_46 (by decide) ?_
      refine lv_goto (tgt := 51) hx hb dX4_joined_47 (by decide) ?_
      exact W.lret (v := 1) hx hb hr (fun t ht hW => ⟨⟨1, (), rfl, (by exact ((zjn_11 (by decide)).1 (by omega)).symm), by (try dsimp only); rw [ht]; exact ⟨hT, hF⟩⟩, hS.F ht⟩) hS.2.2 dX4_joined_51
  by_cases hs9 : p0 = 12
  · subst hs9
    refine lv_tableIn (x := 12) (off := 51) (tgt := 52) hx hb dX4_joined_1 (by decide) (by decide) (by decide) (by decide) ?_
    refine lv_lload_n hx hb dX4_joined_52 rfl (lv_at hl 1 rfl) ?_
    refine lv_lload_n hx hb dX4_joined_53 rfl (lv_at hl 2 rfl) ?_
    refine W.lcmp hx hb dX4_joined_54 ?_
    refine lv_topi (fun x10 ex10 => ?_)
    have t11 : (p1.toInt < p2.toInt ∧ x10.toInt = -1) ∨ (p1.toInt = p2.toInt ∧ x10.toInt = 0) ∨ (p2.toInt < p1.toInt ∧ x10.toInt = 1) := tl_c ex10 rfl rfl
    refine lv_if_le (tgt := 62) hx hb dX4_joined_55 (by decide) (fun c12 => ?_) (fun c12 => ?_)
    · have t13 : x10.toInt ≤ 0 := ti_le c12 rfl (by decide)
      refine lv_lconst (v := 0) hx hb dX4_joined_62 (by decide) ?_
      exact W.lret (v := 0) hx hb hr (fun t ht hW => ⟨⟨0, (), rfl, (by exact ((zjn_12 (by decide)).2 (by omega)).symm), by (try dsimp only); rw [ht]; exact ⟨hT, hF⟩⟩, hS.F ht⟩) hS.2.2 dX4_joined_63
    · have t14 : 0 < x10.toInt := ti_nle c12 rfl (by decide)
      refine lv_lconst (v := 1) hx hb dX4_joined_58 (by decide) ?_
      refine lv_goto (tgt := 63) hx hb dX4_joined_59 (by decide) ?_
      exact W.lret (v := 1) hx hb hr (fun t ht hW => ⟨⟨1, (), rfl, (by exact ((zjn_12 (by decide)).1 (by omega)).symm), by (try dsimp only); rw [ht]; exact ⟨hT, hF⟩⟩, hS.F ht⟩) hS.2.2 dX4_joined_63
  by_cases hs15 : p0 = 13
  · subst hs15
    refine lv_tableIn (x := 13) (off := 67) (tgt := 68) hx hb dX4_joined_1 (by decide) (by decide) (by decide) (by decide) ?_
    refine lv_lload_n hx hb dX4_joined_68 rfl (lv_at hl 1 rfl) ?_
    refine lv_lload_n hx hb dX4_joined_69 rfl (lv_at hl 2 rfl) ?_
    refine va_mmax_long hx hb (hml.trans hl.1.symm) hown (ht_at2 hts 0 rfl) (ht_at2 hts 1 rfl) (ht_at2 hts 2 rfl) (ht_at2 hts 3 rfl) (Nat.le_of_ble_eq_true rfl) (Nat.le_of_ble_eq_true rfl) (Nat.le_of_ble_eq_true rfl) (Nat.le_of_ble_eq_true rfl) dX4_joined_70 ?_
    refine lv_topl (fun y16 ey16 => ?_)
    exact W.lret (v := y16) hx hb hr (fun t ht hW => ⟨⟨y16, (), rfl, (by exact (ey16.trans (zjn_15 (by first | decide | omega) (by first | decide | omega) (by first | decide | omega) (by first | decide | omega)).symm)), by (try dsimp only); rw [ht]; exact ⟨hT, hF⟩⟩, hS.F ht⟩) hS.2.2 dX4_joined_73
  by_cases hs17 : p0 = 14
  · subst hs17
    refine lv_tableIn (x := 14) (off := 63) (tgt := 64) hx hb dX4_joined_1 (by decide) (by decide) (by decide) (by decide) ?_
    refine lv_lload_n hx hb dX4_joined_64 rfl (lv_at hl 1 rfl) ?_
    refine lv_lload_n hx hb dX4_joined_65 rfl (lv_at hl 2 rfl) ?_
    refine lv_lmul hx hb dX4_joined_66 ?_
    refine lv_topl (fun y18 ey18 => ?_)
    exact W.lret (v := y18) hx hb hr (fun t ht hW => ⟨⟨y18, (), rfl, (by exact (ey18.trans (zjn_14 (by decide)).symm)), by (try dsimp only); rw [ht]; exact ⟨hT, hF⟩⟩, hS.F ht⟩) hS.2.2 dX4_joined_67
  have ho19 : p0.toInt < 10 ∨ 14 < p0.toInt := by
    by_cases hz9 : p0.toInt < 10
    · exact Or.inl hz9
    have u9 : (10 : Int) ≤ p0.toInt := Int.not_lt.mp hz9
    have u9 := ll_nx (k1 := 11) u9 hs1 (by decide) (by decide)
    have u9 := ll_nx (k1 := 12) u9 hs3 (by decide) (by decide)
    have u9 := ll_nx (k1 := 13) u9 hs9 (by decide) (by decide)
    have u9 := ll_nx (k1 := 14) u9 hs15 (by decide) (by decide)
    have u9 := ll_nx (k1 := 15) u9 hs17 (by decide) (by decide)
    exact Or.inr (Int.lt_of_lt_of_le (by decide) u9)
  refine lv_tableOut (tgt := 68) hx hb dX4_joined_1 ho19 (by decide) ?_
  refine lv_lload_n hx hb dX4_joined_68 rfl (lv_at hl 1 rfl) ?_
  refine lv_lload_n hx hb dX4_joined_69 rfl (lv_at hl 2 rfl) ?_
  refine va_mmax_long hx hb (hml.trans hl.1.symm) hown (ht_at2 hts 0 rfl) (ht_at2 hts 1 rfl) (ht_at2 hts 2 rfl) (ht_at2 hts 3 rfl) (Nat.le_of_ble_eq_true rfl) (Nat.le_of_ble_eq_true rfl) (Nat.le_of_ble_eq_true rfl) (Nat.le_of_ble_eq_true rfl) dX4_joined_70 ?_
  refine lv_topl (fun y20 ey20 => ?_)
  exact W.lret (v := y20) hx hb hr (fun t ht hW => ⟨⟨y20, (), rfl, (by exact (ey20.trans (zjn_15 (by first | decide | omega) (by first | decide | omega) (by first | decide | omega) (by first | decide | omega)).symm)), by (try dsimp only); rw [ht]; exact ⟨hT, hF⟩⟩, hS.F ht⟩) hS.2.2 dX4_joined_73
def w_c_lineHoldsZ : List Cond := .code yX4_lineHolds cX4_lineHolds 6 (some .boolean) :: (HAppend.hAppend (α := List Cond) (β := List Cond) (γ := List Cond) [.fieldLink RX4 33 "SeaLand$Law" "stepFrom" "[I", .fieldLink RX4 36 "SeaLand$Law" "stepTo" "[I", .fieldLink RX4 39 "SeaLand$Law" "steps" "[I", .fieldLink RX4 42 "SeaLand$Law" "stack" "[J", .code yX4_joined cX4_joined 5 (some .long), .methodLink RX4 199 Lib.MathLoose.max_long.x, .static Lib.MathLoose.max_long.x, .initialized "java/lang/Math", .code Lib.MathLoose.max_long.x Lib.MathLoose.max_long.code 4 (some .long), .methodLink RX4 195 yX4_joined, .static yX4_joined, .initialized RX4] bs2)
