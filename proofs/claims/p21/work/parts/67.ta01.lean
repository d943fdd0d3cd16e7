theorem rs_rF_33 {nC nS : Int} : rS zt_rF (SHc nC nS 33) (SHc nC nS 33) := ⟨rfl, rfl, (rE_ga rK_I)⟩
theorem rs_rF_34 {nC nS : Int} : rS zt_rF (SHc nC nS 34) (SHc nC nS 34) := ⟨rfl, rfl, (rE_ga rK_I)⟩
theorem rs_rF_35 {nC nS : Int} : rS zt_rF (SHc nC nS 35) (SHc nC nS 35) := ⟨rfl, rfl, (rE_ga rK_I)⟩
theorem rs_rF_36 {nC nS : Int} : rS zt_rF (SHc nC nS 36) (SHc nC nS 36) := ⟨rfl, rfl, (rE_ga rK_I)⟩
theorem rs_rF_37 {nC nS : Int} : rS zt_rF (SHc nC nS 37) (SHc nC nS 37) := ⟨rfl, rfl, (rE_ga rK_I)⟩
theorem rs_rF_38 {nC nS : Int} : rS zt_rF (SHc nC nS 38) (SHc nC nS 38) := ⟨rfl, rfl, (rE_ga rK_I)⟩
theorem rs_rF_39 {nC nS : Int} : rS zt_rF (SHc nC nS 39) (SHc nC nS 39) := ⟨rfl, rfl, (rE_ga rK_I)⟩
theorem rs_rF_40 {nC nS : Int} : rS zt_rF (SHc nC nS 40) (SHc nC nS 153) := ⟨rfl, rfl, (rE_ga rK_I)⟩
theorem rs_rF_41 {nC nS : Int} : rS zt_rF (SHc nC nS 41) (SHc nC nS 154) := ⟨rfl, rfl, (rE_ga rK_I)⟩
theorem rs_rF_42 {nC nS : Int} : rS zt_rF (SHc nC nS 42) (SHc nC nS 155) := ⟨rfl, rfl, (rE_ga rK_I)⟩
theorem rs_rF_43 {nC nS : Int} : rS zt_rF (SHc nC nS 43) (SHc nC nS 156) := ⟨rfl, rfl, (rE_ga rK_I)⟩
theorem rs_rF_44 {nC nS : Int} : rS zt_rF (SHc nC nS 44) (SHc nC nS 157) := ⟨rfl, rfl, (rE_ga rK_I)⟩
theorem rs_rF_45 {nC nS : Int} : rS zt_rF (SHc nC nS 45) (SHc nC nS 158) := ⟨rfl, rfl, (rE_ga rK_I)⟩
theorem rs_rF_46 {nC nS : Int} : rS zt_rF (SHc nC nS 46) (SHc nC nS 159) := ⟨rfl, rfl, (rE_ga rK_I)⟩
theorem rs_rF_47 {nC nS : Int} : rS zt_rF (SHc nC nS 47) (SHc nC nS 160) := ⟨rfl, rfl, (rE_ga rK_I)⟩
theorem rs_rF_48 {nC nS : Int} : rS zt_rF (SHc nC nS 48) (SHc nC nS 161) := ⟨rfl, rfl, (rE_ga rK_I)⟩
theorem rs_rF_49 {nC nS : Int} : rS zt_rF (SHc nC nS 49) (SHc nC nS 162) := ⟨rfl, rfl, (rE_ga rK_I)⟩
theorem rs_rF_50 {nC nS : Int} : rS zt_rF (SHc nC nS 50) (SHc nC nS 163) := ⟨rfl, rfl, (rE_ga rK_J)⟩
theorem rs_rF_51 {nC nS : Int} : rS zt_rF (SHc nC nS 51) (SHc nC nS 51) := ⟨rfl, rfl, (rE_gnb (by decide))⟩
theorem rs_rF_52 {nC nS : Int} : rS zt_rF (SHc nC nS 52) (SHc nC nS 52) := ⟨rfl, rfl, (rE_ga rK_I)⟩
theorem rs_rF_53 {nC nS : Int} : rS zt_rF (SHc nC nS 53) (SHc nC nS 53) := ⟨rfl, rfl, (rE_ga rK_I)⟩
theorem rs_rF_54 {nC nS : Int} : rS zt_rF (SHc nC nS 54) (SHc nC nS 54) := ⟨rfl, rfl, (rE_ga rK_I)⟩
theorem rs_rF_55 {nC nS : Int} : rS zt_rF (SHc nC nS 55) (SHc nC nS 55) := ⟨rfl, rfl, (rE_ga rK_I)⟩
theorem rs_rF_56 {nC nS : Int} : rS zt_rF (SHc nC nS 56) (SHc nC nS 56) := ⟨rfl, rfl, (rE_ga rK_J)⟩
theorem rs_rF_57 {nC nS : Int} : rS zt_rF (SHc nC nS 57) (SHc nC nS 57) := ⟨rfl, rfl, (rE_ga rK_I)⟩
theorem rs_rF_58 {nC nS : Int} : rS zt_rF (SHc nC nS 58) (SHc nC nS 58) := ⟨rfl, rfl, (rE_ga rK_I)⟩
theorem rs_rF_59 {nC nS : Int} : rS zt_rF (SHc nC nS 59) (SHc nC nS 59) := ⟨rfl, rfl, (rE_ga rK_I)⟩
theorem rs_rF_60 {nC nS : Int} : rS zt_rF (SHc nC nS 60) (SHc nC nS 60) := ⟨rfl, rfl, (rE_ga rK_I)⟩
theorem rs_rF_61 {nC nS : Int} : rS zt_rF (SHc nC nS 61) (SHc nC nS 61) := ⟨rfl, rfl, (rE_ga rK_I)⟩
theorem rs_rF_62 {nC nS : Int} : rS zt_rF (SHc nC nS 62) (SHc nC nS 62) := ⟨rfl, rfl, (rE_ga rK_I)⟩
theorem rs_rF_63 {nC nS : Int} : rS zt_rF (SHc nC nS 63) (SHc nC nS 63) := ⟨rfl, rfl, (rE_ga rK_I)⟩
theorem rs_rF_64 {nC nS : Int} : rS zt_rF (SHc nC nS 64) (SHc nC nS 64) := ⟨rfl, rfl, (rE_ga rK_I)⟩
theorem rs_rF_65 {nC nS : Int} : rS zt_rF (SHc nC nS 65) (SHc nC nS 65) := ⟨rfl, rfl, (rE_ga rK_I)⟩
theorem rs_rF_66 {nC nS : Int} : rS zt_rF (SHc nC nS 66) (SHc nC nS 66) := ⟨rfl, rfl, (rE_ga rK_I)⟩
theorem rs_rF_67 {nC nS : Int} : rS zt_rF (SHc nC nS 67) (SHc nC nS 67) := ⟨rfl, rfl, (rE_ga rK_I)⟩
theorem rs_rF_68 {nC nS : Int} : rS zt_rF (SHc nC nS 68) (SHc nC nS 68) := ⟨rfl, rfl, (rE_ga rK_I)⟩
theorem rs_rF_69 {nC nS : Int} : rS zt_rF (SHc nC nS 69) (SHc nC nS 69) := ⟨rfl, rfl, (rE_ga rK_I)⟩
theorem rs_rF_70 {nC nS : Int} : rS zt_rF (SHc nC nS 70) (SHc nC nS 70) := ⟨rfl, rfl, (rE_ga (rK_R (by decide)))⟩
theorem rs_rF_71 {nC nS : Int} : rS zt_rF (SHc nC nS 71) (SHc nC nS 71) := ⟨rfl, rfl, (rE_ga rK_I)⟩
theorem rs_rF_72 {nC nS : Int} : rS zt_rF (SHc nC nS 72) (SHc nC nS 72) := ⟨rfl, rfl, (rE_ga rK_I)⟩
theorem rs_rF_73 {nC nS : Int} : rS zt_rF (SHc nC nS 73) (SHc nC nS 73) := ⟨rfl, rfl, (rE_ga rK_I)⟩
theorem rs_rF_74 {nC nS : Int} : rS zt_rF (SHc nC nS 74) (SHc nC nS 74) := ⟨rfl, rfl, (rE_ga rK_I)⟩
theorem rs_rF_75 {nC nS : Int} : rS zt_rF (SHc nC nS 75) (SHc nC nS 75) := ⟨rfl, rfl, (rE_ga rK_I)⟩
theorem rs_rF_76 {nC nS : Int} : rS zt_rF (SHc nC nS 76) (SHc nC nS 76) := ⟨rfl, rfl, (rE_ga rK_I)⟩
theorem rs_rF_77 {nC nS : Int} : rS zt_rF (SHc nC nS 77) (SHc nC nS 77) := ⟨rfl, rfl, (rE_ga rK_I)⟩
theorem rs_rF_78 {nC nS : Int} : rS zt_rF (SHc nC nS 78) (SHc nC nS 78) := ⟨rfl, rfl, (rE_ga rK_I)⟩
theorem rs_rF_79 {nC nS : Int} : rS zt_rF (SHc nC nS 79) (SHc nC nS 79) := ⟨rfl, rfl, (rE_ga rK_I)⟩
theorem rs_rF_80 {nC nS : Int} : rS zt_rF (SHc nC nS 80) (SHc nC nS 80) := ⟨rfl, rfl, (rE_ga rK_I)⟩
theorem rs_rF_81 {nC nS : Int} : rS zt_rF (SHc nC nS 81) (SHc nC nS 81) := ⟨rfl, rfl, (rE_ga rK_I)⟩
theorem rs_rF_82 {nC nS : Int} : rS zt_rF (SHc nC nS 82) (SHc nC nS 82) := ⟨rfl, rfl, (rE_ga rK_I)⟩
theorem rs_rF_83 {nC nS : Int} : rS zt_rF (SHc nC nS 83) (SHc nC nS 83) := ⟨rfl, rfl, (rE_ga rK_I)⟩
theorem rs_rF_84 {nC nS : Int} : rS zt_rF (SHc nC nS 84) (SHc nC nS 84) := ⟨rfl, rfl, (rE_ga rK_I)⟩
theorem rs_rF_85 {nC nS : Int} : rS zt_rF (SHc nC nS 85) (SHc nC nS 85) := ⟨rfl, rfl, (rE_ga rK_I)⟩
theorem rs_rF_86 {nC nS : Int} : rS zt_rF (SHc nC nS 86) (SHc nC nS 86) := ⟨rfl, rfl, (rE_ga rK_I)⟩
theorem rs_rF_87 {nC nS : Int} : rS zt_rF (SHc nC nS 87) (SHc nC nS 87) := ⟨rfl, rfl, (rE_ga rK_I)⟩
theorem rs_rF_88 {nC nS : Int} : rS zt_rF (SHc nC nS 88) (SHc nC nS 88) := ⟨rfl, rfl, (rE_ga rK_I)⟩
theorem rs_rF_89 {nC nS : Int} : rS zt_rF (SHc nC nS 89) (SHc nC nS 89) := ⟨rfl, rfl, (rE_ga rK_I)⟩
theorem rs_rF_90 {nC nS : Int} : rS zt_rF (SHc nC nS 90) (SHc nC nS 90) := ⟨rfl, rfl, (rE_cons (rK_R (by decide)) (rE_cons (rK_R (by decide)) (rE_cons (rK_R (by decide)) (rE_cons rK_I (rE_cons rK_I rE_nil)))))⟩
theorem rs_rF_91 {nC nS : Int} : rS zt_rF (SHc nC nS 91) (SHc nC nS 91) := ⟨rfl, rfl, (rE_cons (rK_R (by decide)) (rE_cons (rK_R (by decide)) (rE_cons (rK_R (by decide)) (rE_cons (rK_R (by decide)) (rE_cons (rK_R (by decide)) (rE_cons (rK_R (by decide)) (rE_cons rK_I rE_nil)))))))⟩
theorem rs_rF_92 {nC nS : Int} : rS zt_rF (SHc nC nS 92) (SHc nC nS 92) := ⟨rfl, rfl, (rE_cons (rK_R (by decide)) (rE_cons (rK_R (by decide)) (rE_cons rK_I rE_nil)))⟩
theorem rs_rF_93 {nC nS : Int} : rS zt_rF (SHc nC nS 93) (SHc nC nS 93) := ⟨rfl, rfl, (rE_cons (rK_R (by decide)) (rE_cons (rK_R (by decide)) (rE_cons (rK_R (by decide)) (rE_cons (rK_R (by decide)) (rE_cons (rK_R (by decide)) (rE_cons (rK_R (by decide)) (rE_cons (rK_R (by decide)) (rE_cons (rK_R (by decide)) (rE_cons (rK_R (by decide)) (rE_cons (rK_R (by decide)) (rE_cons (rK_R (by decide)) (rE_cons rK_I (rE_cons rK_I (rE_cons rK_I (rE_cons rK_I rE_nil)))))))))))))))⟩
theorem rs_rF_94 {nC nS : Int} : rS zt_rF (SHc nC nS 94) (SHc nC nS 94) := ⟨rfl, rfl, (rE_cons (rK_R (by decide)) (rE_cons (rK_R (by decide)) (rE_cons rK_I (rE_cons rK_I (rE_cons rK_I (rE_cons rK_I (rE_cons rK_I (rE_cons rK_I (rE_cons rK_I (rE_cons rK_I (rE_cons rK_I (rE_cons rK_I rE_nil))))))))))))⟩
theorem rs_rF_98 {nC nS : Int} : rS zt_rF (SHc nC nS 98) (SHc nC nS 98) := ⟨rfl, rfl, (rE_ga rK_J)⟩
theorem rs_rF_140 {nC nS : Int} : rS zt_rF (SHc nC nS 140) (SHc nC nS 140) := ⟨rfl, rfl, (rE_cons (rK_R (by decide)) (rE_cons (rK_R (by decide)) (rE_cons (rK_R (by decide)) (rE_cons (rK_R (by decide)) (rE_cons (rK_R (by decide)) (rE_cons (rK_R (by decide)) (rE_cons (rK_R (by decide)) (rE_cons (rK_R (by decide)) (rE_cons (rK_R (by decide)) (rE_cons (rK_R (by decide)) (rE_cons (rK_R (by decide)) (rE_cons rK_I (rE_cons rK_I (rE_cons rK_I rE_nil))))))))))))))⟩
theorem rs_rF_141 {nC nS : Int} : rS zt_rF (SHc nC nS 141) (SHc nC nS 141) := ⟨rfl, rfl, (rE_ga rK_I)⟩
theorem rs_rF_142 {nC nS : Int} : rS zt_rF (SHc nC nS 142) (SHc nC nS 142) := ⟨rfl, rfl, (rE_ga rK_I)⟩
theorem rs_rF_143 {nC nS : Int} : rS zt_rF (SHc nC nS 143) (SHc nC nS 143) := ⟨rfl, rfl, (rE_ga rK_I)⟩
theorem rs_rF_144 {nC nS : Int} : rS zt_rF (SHc nC nS 144) (SHc nC nS 144) := ⟨rfl, rfl, (rE_ga rK_I)⟩
theorem rs_rF_145 {nC nS : Int} : rS zt_rF (SHc nC nS 145) (SHc nC nS 145) := ⟨rfl, rfl, (rE_ga rK_I)⟩
theorem rs_rF_146 {nC nS : Int} : rS zt_rF (SHc nC nS 146) (SHc nC nS 146) := ⟨rfl, rfl, (rE_ga rK_I)⟩
theorem rs_rF_147 {nC nS : Int} : rS zt_rF (SHc nC nS 147) (SHc nC nS 147) := ⟨rfl, rfl, (rE_ga rK_I)⟩
theorem rs_rF_148 {nC nS : Int} : rS zt_rF (SHc nC nS 148) (SHc nC nS 148) := ⟨rfl, rfl, (rE_ga rK_I)⟩
theorem rs_rF_149 {nC nS : Int} : rS zt_rF (SHc nC nS 149) (SHc nC nS 149) := ⟨rfl, rfl, (rE_ga rK_I)⟩
theorem rs_rF_150 {nC nS : Int} : rS zt_rF (SHc nC nS 150) (SHc nC nS 150) := ⟨rfl, rfl, (rE_ga rK_I)⟩
theorem rs_rF_151 {nC nS : Int} : rS zt_rF (SHc nC nS 151) (SHc nC nS 151) := ⟨rfl, rfl, (rE_ga rK_J)⟩
theorem rs_rF_152 {nC nS : Int} : rS zt_rF (SHc nC nS 152) (SHc nC nS 7) := ⟨rfl, rfl, (rE_cons (rK_R (by decide)) (rE_cons (rK_R (by decide)) (rE_cons (rK_R (by decide)) (rE_cons (rK_R (by decide)) (rE_cons (rK_R (by decide)) (rE_cons (rK_R (by decide)) (rE_cons (rK_R (by decide)) (rE_cons (rK_R (by decide)) (rE_cons (rK_R (by decide)) (rE_cons (rK_R (by decide)) (rE_cons (rK_R (by decide)) (rE_cons rK_I (rE_cons rK_I (rE_cons rK_I rE_nil))))))))))))))⟩
theorem rs_rF_153 {nC nS : Int} : rS zt_rF (SHc nC nS 153) (SHc nC nS 40) := ⟨rfl, rfl, (rE_ga rK_I)⟩
theorem rs_rF_154 {nC nS : Int} : rS zt_rF (SHc nC nS 154) (SHc nC nS 41) := ⟨rfl, rfl, (rE_ga rK_I)⟩
theorem rs_rF_155 {nC nS : Int} : rS zt_rF (SHc nC nS 155) (SHc nC nS 42) := ⟨rfl, rfl, (rE_ga rK_I)⟩
theorem rs_rF_156 {nC nS : Int} : rS zt_rF (SHc nC nS 156) (SHc nC nS 43) := ⟨rfl, rfl, (rE_ga rK_I)⟩
theorem rs_rF_157 {nC nS : Int} : rS zt_rF (SHc nC nS 157) (SHc nC nS 44) := ⟨rfl, rfl, (rE_ga rK_I)⟩
theorem rs_rF_158 {nC nS : Int} : rS zt_rF (SHc nC nS 158) (SHc nC nS 45) := ⟨rfl, rfl, (rE_ga rK_I)⟩
theorem rs_rF_159 {nC nS : Int} : rS zt_rF (SHc nC nS 159) (SHc nC nS 46) := ⟨rfl, rfl, (rE_ga rK_I)⟩
theorem rs_rF_160 {nC nS : Int} : rS zt_rF (SHc nC nS 160) (SHc nC nS 47) := ⟨rfl, rfl, (rE_ga rK_I)⟩
theorem rs_rF_161 {nC nS : Int} : rS zt_rF (SHc nC nS 161) (SHc nC nS 48) := ⟨rfl, rfl, (rE_ga rK_I)⟩
theorem rs_rF_162 {nC nS : Int} : rS zt_rF (SHc nC nS 162) (SHc nC nS 49) := ⟨rfl, rfl, (rE_ga rK_I)⟩
theorem rs_rF_163 {nC nS : Int} : rS zt_rF (SHc nC nS 163) (SHc nC nS 50) := ⟨rfl, rfl, (rE_ga rK_J)⟩
set_option maxRecDepth 100000 in
theorem rs_rF {nC nS : Int} : ∀ t u, t ≠ 166 → t ≠ 167 → zt_rF t = some u → rS zt_rF (SHc nC nS t) (SHc nC nS u) := by
  intro t u hne hne2 h
  have h := zt_m h
  rcases List.mem_cons.mp h with h | h
  · obtain ⟨rfl, rfl⟩ := Prod.mk.inj h
    exact rs_rF_4
  rcases List.mem_cons.mp h with h | h
  · obtain ⟨rfl, rfl⟩ := Prod.mk.inj h
    exact rs_rF_5
  rcases List.mem_cons.mp h with h | h
  · obtain ⟨rfl, rfl⟩ := Prod.mk.inj h
    exact rs_rF_6
  rcases List.mem_cons.mp h with h | h
  · obtain ⟨rfl, rfl⟩ := Prod.mk.inj h
    exact rs_rF_7
  rcases List.mem_cons.mp h with h | h
  · obtain ⟨rfl, rfl⟩ := Prod.mk.inj h
    exact rs_rF_8
  rcases List.mem_cons.mp h with h | h
  · obtain ⟨rfl, rfl⟩ := Prod.mk.inj h
    exact rs_rF_9
  rcases List.mem_cons.mp h with h | h
  · obtain ⟨rfl, rfl⟩ := Prod.mk.inj h
    exact rs_rF_10
  rcases List.mem_cons.mp h with h | h
  · obtain ⟨rfl, rfl⟩ := Prod.mk.inj h
    exact rs_rF_11
  rcases List.mem_cons.mp h with h | h
  · obtain ⟨rfl, rfl⟩ := Prod.mk.inj h
    exact rs_rF_12
  rcases List.mem_cons.mp h with h | h
  · obtain ⟨rfl, rfl⟩ := Prod.mk.inj h
    exact rs_rF_13
  rcases List.mem_cons.mp h with h | h
  · obtain ⟨rfl, rfl⟩ := Prod.mk.inj h
    exact rs_rF_16
  rcases List.mem_cons.mp h with h | h
  · obtain ⟨rfl, rfl⟩ := Prod.mk.inj h
    exact rs_rF_17
  rcases List.mem_cons.mp h with h | h
  · obtain ⟨rfl, rfl⟩ := Prod.mk.inj h
    exact rs_rF_18
  rcases List.mem_cons.mp h with h | h
  · obtain ⟨rfl, rfl⟩ := Prod.mk.inj h
    exact rs_rF_19
  rcases List.mem_cons.mp h with h | h
  · obtain ⟨rfl, rfl⟩ := Prod.mk.inj h
    exact rs_rF_20
  rcases List.mem_cons.mp h with h | h
  · obtain ⟨rfl, rfl⟩ := Prod.mk.inj h
    exact rs_rF_21
  rcases List.mem_cons.mp h with h | h
  · obtain ⟨rfl, rfl⟩ := Prod.mk.inj h
    exact rs_rF_22
  rcases List.mem_cons.mp h with h | h
  · obtain ⟨rfl, rfl⟩ := Prod.mk.inj h
    exact rs_rF_23
  rcases List.mem_cons.mp h with h | h
  · obtain ⟨rfl, rfl⟩ := Prod.mk.inj h
    exact rs_rF_24
  rcases List.mem_cons.mp h with h | h
  · obtain ⟨rfl, rfl⟩ := Prod.mk.inj h
    exact rs_rF_25
  rcases List.mem_cons.mp h with h | h
  · obtain ⟨rfl, rfl⟩ := Prod.mk.inj h
    exact rs_rF_26
  rcases List.mem_cons.mp h with h | h
  · obtain ⟨rfl, rfl⟩ := Prod.mk.inj h
    exact rs_rF_27
  rcases List.mem_cons.mp h with h | h
  · obtain ⟨rfl, rfl⟩ := Prod.mk.inj h
    exact rs_rF_28
  rcases List.mem_cons.mp h with h | h
  · obtain ⟨rfl, rfl⟩ := Prod.mk.inj h
    exact rs_rF_29
  rcases List.mem_cons.mp h with h | h
  · obtain ⟨rfl, rfl⟩ := Prod.mk.inj h
    exact rs_rF_30
  rcases List.mem_cons.mp h with h | h
  · obtain ⟨rfl, rfl⟩ := Prod.mk.inj h
    exact rs_rF_31
  rcases List.mem_cons.mp h with h | h
  · obtain ⟨rfl, rfl⟩ := Prod.mk.inj h
    exact rs_rF_32
  rcases List.mem_cons.mp h with h | h
  · obtain ⟨rfl, rfl⟩ := Prod.mk.inj h
    exact rs_rF_33
  rcases List.mem_cons.mp h with h | h
  · obtain ⟨rfl, rfl⟩ := Prod.mk.inj h
    exact rs_rF_34
  rcases List.mem_cons.mp h with h | h
  · obtain ⟨rfl, rfl⟩ := Prod.mk.inj h
    exact rs_rF_35
  rcases List.mem_cons.mp h with h | h
  · obtain ⟨rfl, rfl⟩ := Prod.mk.inj h
    exact rs_rF_36
  rcases List.mem_cons.mp h with h | h
  · obtain ⟨rfl, rfl⟩ := Prod.mk.inj h
    exact rs_rF_37
  rcases List.mem_cons.mp h with h | h
  · obtain ⟨rfl, rfl⟩ := Prod.mk.inj h
    exact rs_rF_38
  rcases List.mem_cons.mp h with h | h
  · obtain ⟨rfl, rfl⟩ := Prod.mk.inj h
    exact rs_rF_39
  rcases List.mem_cons.mp h with h | h
  · obtain ⟨rfl, rfl⟩ := Prod.mk.inj h
    exact rs_rF_40
  rcases List.mem_cons.mp h with h | h
  · obtain ⟨rfl, rfl⟩ := Prod.mk.inj h
    exact rs_rF_41
  rcases List.mem_cons.mp h with h | h
  · obtain ⟨rfl, rfl⟩ := Prod.mk.inj h
    exact rs_rF_42
  rcases List.mem_cons.mp h with h | h
  · obtain ⟨rfl, rfl⟩ := Prod.mk.inj h
    exact rs_rF_43
  rcases List.mem_cons.mp h with h | h
  · obtain ⟨rfl, rfl⟩ := Prod.mk.inj h
    exact rs_rF_44
  rcases List.mem_cons.mp h with h | h
  · obtain ⟨rfl, rfl⟩ := Prod.mk.inj h
    exact rs_rF_45
  rcases List.mem_cons.mp h with h | h
  · obtain ⟨rfl, rfl⟩ := Prod.mk.inj h
    exact rs_rF_46
  rcases List.mem_cons.mp h with h | h
  · obtain ⟨rfl, rfl⟩ := Prod.mk.inj h
    exact rs_rF_47
  rcases List.mem_cons.mp h with h | h
  · obtain ⟨rfl, rfl⟩ := Prod.mk.inj h
    exact rs_rF_48
  rcases List.mem_cons.mp h with h | h
  · obtain ⟨rfl, rfl⟩ := Prod.mk.inj h
    exact rs_rF_49
  rcases List.mem_cons.mp h with h | h
  · obtain ⟨rfl, rfl⟩ := Prod.mk.inj h
    exact rs_rF_50
  rcases List.mem_cons.mp h with h | h
  · obtain ⟨rfl, rfl⟩ := Prod.mk.inj h
    exact rs_rF_51
  rcases List.mem_cons.mp h with h | h
  · obtain ⟨rfl, rfl⟩ := Prod.mk.inj h
    exact rs_rF_52
  rcases List.mem_cons.mp h with h | h
  · obtain ⟨rfl, rfl⟩ := Prod.mk.inj h
    exact rs_rF_53
  rcases List.mem_cons.mp h with h | h
  · obtain ⟨rfl, rfl⟩ := Prod.mk.inj h
    exact rs_rF_54
  rcases List.mem_cons.mp h with h | h
  · obtain ⟨rfl, rfl⟩ := Prod.mk.inj h
    exact rs_rF_55
  rcases List.mem_cons.mp h with h | h
  · obtain ⟨rfl, rfl⟩ := Prod.mk.inj h
    exact rs_rF_56
  rcases List.mem_cons.mp h with h | h
  · obtain ⟨rfl, rfl⟩ := Prod.mk.inj h
    exact rs_rF_57
  rcases List.mem_cons.mp h with h | h
  · obtain ⟨rfl, rfl⟩ := Prod.mk.inj h
    exact rs_rF_58
  rcases List.mem_cons.mp h with h | h
  · obtain ⟨rfl, rfl⟩ := Prod.mk.inj h
    exact rs_rF_59
  rcases List.mem_cons.mp h with h | h
  · obtain ⟨rfl, rfl⟩ := Prod.mk.inj h
    exact rs_rF_60
  rcases List.mem_cons.mp h with h | h
  · obtain ⟨rfl, rfl⟩ := Prod.mk.inj h
    exact rs_rF_61
  rcases List.mem_cons.mp h with h | h
  · obtain ⟨rfl, rfl⟩ := Prod.mk.inj h
    exact rs_rF_62
  rcases List.mem_cons.mp h with h | h
  · obtain ⟨rfl, rfl⟩ := Prod.mk.inj h
    exact rs_rF_63
  rcases List.mem_cons.mp h with h | h
  · obtain ⟨rfl, rfl⟩ := Prod.mk.inj h
    exact rs_rF_64
  rcases List.mem_cons.mp h with h | h
  · obtain ⟨rfl, rfl⟩ := Prod.mk.inj h
    exact rs_rF_65
  rcases List.mem_cons.mp h with h | h
  · obtain ⟨rfl, rfl⟩ := Prod.mk.inj h
    exact rs_rF_66
  rcases List.mem_cons.mp h with h | h
  · obtain ⟨rfl, rfl⟩ := Prod.mk.inj h
    exact rs_rF_67
  rcases List.mem_cons.mp h with h | h
  · obtain ⟨rfl, rfl⟩ := Prod.mk.inj h
    exact rs_rF_68
  rcases List.mem_cons.mp h with h | h
  · obtain ⟨rfl, rfl⟩ := Prod.mk.inj h
    exact rs_rF_69
  rcases List.mem_cons.mp h with h | h
  · obtain ⟨rfl, rfl⟩ := Prod.mk.inj h
    exact rs_rF_70
  rcases List.mem_cons.mp h with h | h
  · obtain ⟨rfl, rfl⟩ := Prod.mk.inj h
    exact rs_rF_71
  rcases List.mem_cons.mp h with h | h
  · obtain ⟨rfl, rfl⟩ := Prod.mk.inj h
    exact rs_rF_72
  rcases List.mem_cons.mp h with h | h
  · obtain ⟨rfl, rfl⟩ := Prod.mk.inj h
    exact rs_rF_73
  rcases List.mem_cons.mp h with h | h
  · obtain ⟨rfl, rfl⟩ := Prod.mk.inj h
    exact rs_rF_74
  rcases List.mem_cons.mp h with h | h
  · obtain ⟨rfl, rfl⟩ := Prod.mk.inj h
    exact rs_rF_75
  rcases List.mem_cons.mp h with h | h
  · obtain ⟨rfl, rfl⟩ := Prod.mk.inj h
    exact rs_rF_76
  rcases List.mem_cons.mp h with h | h
  · obtain ⟨rfl, rfl⟩ := Prod.mk.inj h
    exact rs_rF_77
  rcases List.mem_cons.mp h with h | h
  · obtain ⟨rfl, rfl⟩ := Prod.mk.inj h
    exact rs_rF_78
  rcases List.mem_cons.mp h with h | h
  · obtain ⟨rfl, rfl⟩ := Prod.mk.inj h
    exact rs_rF_79
  rcases List.mem_cons.mp h with h | h
  · obtain ⟨rfl, rfl⟩ := Prod.mk.inj h
    exact rs_rF_80
  rcases List.mem_cons.mp h with h | h
  · obtain ⟨rfl, rfl⟩ := Prod.mk.inj h
    exact rs_rF_81
  rcases List.mem_cons.mp h with h | h
  · obtain ⟨rfl, rfl⟩ := Prod.mk.inj h
    exact rs_rF_82
  rcases List.mem_cons.mp h with h | h
  · obtain ⟨rfl, rfl⟩ := Prod.mk.inj h
    exact rs_rF_83
  rcases List.mem_cons.mp h with h | h
  · obtain ⟨rfl, rfl⟩ := Prod.mk.inj h
    exact rs_rF_84
  rcases List.mem_cons.mp h with h | h
  · obtain ⟨rfl, rfl⟩ := Prod.mk.inj h
    exact rs_rF_85
  rcases List.mem_cons.mp h with h | h
  · obtain ⟨rfl, rfl⟩ := Prod.mk.inj h
    exact rs_rF_86
  rcases List.mem_cons.mp h with h | h
  · obtain ⟨rfl, rfl⟩ := Prod.mk.inj h
    exact rs_rF_87
  rcases List.mem_cons.mp h with h | h
  · obtain ⟨rfl, rfl⟩ := Prod.mk.inj h
    exact rs_rF_88
  rcases List.mem_cons.mp h with h | h
  · obtain ⟨rfl, rfl⟩ := Prod.mk.inj h
    exact rs_rF_89
  rcases List.mem_cons.mp h with h | h
  · obtain ⟨rfl, rfl⟩ := Prod.mk.inj h
    exact rs_rF_90
  rcases List.mem_cons.mp h with h | h
  · obtain ⟨rfl, rfl⟩ := Prod.mk.inj h
    exact rs_rF_91
  rcases List.mem_cons.mp h with h | h
  · obtain ⟨rfl, rfl⟩ := Prod.mk.inj h
    exact rs_rF_92
  rcases List.mem_cons.mp h with h | h
  · obtain ⟨rfl, rfl⟩ := Prod.mk.inj h
    exact rs_rF_93
  rcases List.mem_cons.mp h with h | h
  · obtain ⟨rfl, rfl⟩ := Prod.mk.inj h
    exact rs_rF_94
  rcases List.mem_cons.mp h with h | h
  · obtain ⟨rfl, rfl⟩ := Prod.mk.inj h
    exact rs_rF_98
  rcases List.mem_cons.mp h with h | h
  · obtain ⟨rfl, rfl⟩ := Prod.mk.inj h
    exact rs_rF_140
  rcases List.mem_cons.mp h with h | h
  · obtain ⟨rfl, rfl⟩ := Prod.mk.inj h
    exact rs_rF_141
  rcases List.mem_cons.mp h with h | h
  · obtain ⟨rfl, rfl⟩ := Prod.mk.inj h
    exact rs_rF_142
  rcases List.mem_cons.mp h with h | h
  · obtain ⟨rfl, rfl⟩ := Prod.mk.inj h
    exact rs_rF_143
  rcases List.mem_cons.mp h with h | h
  · obtain ⟨rfl, rfl⟩ := Prod.mk.inj h
    exact rs_rF_144
  rcases List.mem_cons.mp h with h | h
  · obtain ⟨rfl, rfl⟩ := Prod.mk.inj h
    exact rs_rF_145
  rcases List.mem_cons.mp h with h | h
  · obtain ⟨rfl, rfl⟩ := Prod.mk.inj h
    exact rs_rF_146
  rcases List.mem_cons.mp h with h | h
  · obtain ⟨rfl, rfl⟩ := Prod.mk.inj h
    exact rs_rF_147
  rcases List.mem_cons.mp h with h | h
  · obtain ⟨rfl, rfl⟩ := Prod.mk.inj h
    exact rs_rF_148
  rcases List.mem_cons.mp h with h | h
  · obtain ⟨rfl, rfl⟩ := Prod.mk.inj h
    exact rs_rF_149
  rcases List.mem_cons.mp h with h | h
  · obtain ⟨rfl, rfl⟩ := Prod.mk.inj h
    exact rs_rF_150
  rcases List.mem_cons.mp h with h | h
  · obtain ⟨rfl, rfl⟩ := Prod.mk.inj h
    exact rs_rF_151
  rcases List.mem_cons.mp h with h | h
  · obtain ⟨rfl, rfl⟩ := Prod.mk.inj h
    exact rs_rF_152
  rcases List.mem_cons.mp h with h | h
  · obtain ⟨rfl, rfl⟩ := Prod.mk.inj h
    exact rs_rF_153
  rcases List.mem_cons.mp h with h | h
  · obtain ⟨rfl, rfl⟩ := Prod.mk.inj h
    exact rs_rF_154
  rcases List.mem_cons.mp h with h | h
  · obtain ⟨rfl, rfl⟩ := Prod.mk.inj h
    exact rs_rF_155
  rcases List.mem_cons.mp h with h | h
  · obtain ⟨rfl, rfl⟩ := Prod.mk.inj h
    exact rs_rF_156
  rcases List.mem_cons.mp h with h | h
  · obtain ⟨rfl, rfl⟩ := Prod.mk.inj h
    exact rs_rF_157
  rcases List.mem_cons.mp h with h | h
  · obtain ⟨rfl, rfl⟩ := Prod.mk.inj h
    exact rs_rF_158
  rcases List.mem_cons.mp h with h | h
  · obtain ⟨rfl, rfl⟩ := Prod.mk.inj h
    exact rs_rF_159
  rcases List.mem_cons.mp h with h | h
  · obtain ⟨rfl, rfl⟩ := Prod.mk.inj h
    exact rs_rF_160
  rcases List.mem_cons.mp h with h | h
  · obtain ⟨rfl, rfl⟩ := Prod.mk.inj h
    exact rs_rF_161
  rcases List.mem_cons.mp h with h | h
  · obtain ⟨rfl, rfl⟩ := Prod.mk.inj h
    exact rs_rF_162
  rcases List.mem_cons.mp h with h | h
  · obtain ⟨rfl, rfl⟩ := Prod.mk.inj h
    exact rs_rF_163
  rcases List.mem_cons.mp h with h | h
  · obtain ⟨rfl, rfl⟩ := Prod.mk.inj h
    exact absurd rfl hne
  rcases List.mem_cons.mp h with h | h
  · obtain ⟨rfl, rfl⟩ := Prod.mk.inj h
    exact absurd rfl hne2
  exact absurd h List.not_mem_nil
def ZL_rP : List (Nat × Nat) := ((4, 4) :: (5, 5) :: (6, 6) :: (7, 7) :: (8, 8) :: (9, 9) :: (10, 10) :: (11, 11) :: (12, 12) :: (13, 13) :: (16, 16) :: (17, 17) :: (18, 18) :: (19, 19) :: (20, 20) :: (21, 21) :: (22, 22) :: (23, 23) :: (24, 24) :: (25, 25) :: (26, 26) :: (27, 27) :: (28, 28) :: (29, 29) :: (30, 30) :: (31, 31) :: (32, 32) :: (33, 33) :: (34, 34) :: (35, 35) :: (36, 36) :: (37, 37) :: (38, 38) :: (39, 39) :: (40, 40) :: (41, 41) :: (42, 42) :: (43, 43) :: (44, 44) :: (45, 45) :: (46, 46) :: (47, 47) :: (48, 48) :: (49, 49) :: (50, 50) :: (51, 51) :: (52, 52) :: (53, 53) :: (54, 54) :: (55, 55) :: (56, 56) :: (57, 57) :: (58, 58) :: (59, 59) :: (60, 60) :: (61, 61) :: (62, 62) :: (63, 63) :: (64, 64) :: (65, 65) :: (66, 66) :: (67, 67) :: (68, 68) :: (69, 69) :: (70, 70) :: (71, 71) :: (72, 72) :: (73, 73) :: (74, 74) :: (75, 75) :: (76, 76) :: (77, 77) :: (78, 78) :: (79, 79) :: (80, 80) :: (81, 81) :: (82, 82) :: (83, 83) :: (84, 84) :: (85, 85) :: (86, 86) :: (87, 87) :: (88, 88) :: (89, 89) :: (90, 90) :: (91, 91) :: (92, 92) :: (93, 93) :: (94, 94) :: (98, 98) :: (140, 152) :: (141, 153) :: (142, 154) :: (143, 155) :: (144, 156) :: (145, 157) :: (146, 158) :: (147, 159) :: (148, 160) :: (149, 161) :: (150, 162) :: (151, 163) :: (152, 140) :: (153, 141) :: (154, 142) :: (155, 143) :: (156, 144) :: (157, 145) :: (158, 146) :: (159, 147) :: (160, 148) :: (161, 149) :: (162, 150) :: (163, 151) :: (166, 3) :: (167, 14) :: [])
def zt_rP : Nat → Option Nat := zt ZL_rP
theorem rs_rP_4 {nC nS : Int} : rS zt_rP (SHc nC nS 4) (SHc nC nS 4) := ⟨rfl, rfl, (rE_cons rK_I (rE_cons rK_I (rE_cons rK_I (rE_cons rK_I (rE_cons rK_I (rE_cons rK_I (rE_cons rK_I (rE_cons rK_I rE_nil))))))))⟩
theorem rs_rP_5 {nC nS : Int} : rS zt_rP (SHc nC nS 5) (SHc nC nS 5) := ⟨rfl, rfl, (rE_cons (rK_R (by decide)) (rE_cons (rK_R (by decide)) (rE_cons (rK_R (by decide)) (rE_cons (rK_R (by decide)) (rE_cons (rK_R (by decide)) (rE_cons (rK_R (by decide)) (rE_cons (rK_R (by decide)) (rE_cons (rK_R (by decide)) (rE_cons (rK_R (by decide)) (rE_cons (rK_R (by decide)) (rE_cons (rK_R (by decide)) (rE_cons rK_I (rE_cons rK_I (rE_cons rK_I (rE_cons rK_I rE_nil)))))))))))))))⟩
theorem rs_rP_6 {nC nS : Int} : rS zt_rP (SHc nC nS 6) (SHc nC nS 6) := ⟨rfl, rfl, (rE_cons (rK_R (by decide)) (rE_cons (rK_R (by decide)) (rE_cons (rK_R (by decide)) (rE_cons rK_I (rE_cons rK_I rE_nil)))))⟩
theorem rs_rP_7 {nC nS : Int} : rS zt_rP (SHc nC nS 7) (SHc nC nS 7) := ⟨rfl, rfl, (rE_cons (rK_R (by decide)) (rE_cons (rK_R (by decide)) (rE_cons (rK_R (by decide)) (rE_cons (rK_R (by decide)) (rE_cons (rK_R (by decide)) (rE_cons (rK_R (by decide)) (rE_cons (rK_R (by decide)) (rE_cons (rK_R (by decide)) (rE_cons (rK_R (by decide)) (rE_cons (rK_R (by decide)) (rE_cons (rK_R (by decide)) (rE_cons rK_I (rE_cons rK_I (rE_cons rK_I rE_nil))))))))))))))⟩
theorem rs_rP_8 {nC nS : Int} : rS zt_rP (SHc nC nS 8) (SHc nC nS 8) := ⟨rfl, rfl, (rE_cons (rK_R (by decide)) (rE_cons (rK_R (by decide)) (rE_cons (rK_R (by decide)) (rE_cons (rK_R (by decide)) (rE_cons (rK_R (by decide)) (rE_cons (rK_R (by decide)) (rE_cons (rK_R (by decide)) (rE_cons (rK_R (by decide)) (rE_cons (rK_R (by decide)) (rE_cons (rK_R (by decide)) (rE_cons (rK_R (by decide)) (rE_cons (rK_R (by decide)) (rE_cons rK_I (rE_cons rK_I (rE_cons rK_I (rE_cons rK_I (rE_cons rK_I rE_nil)))))))))))))))))⟩
theorem rs_rP_9 {nC nS : Int} : rS zt_rP (SHc nC nS 9) (SHc nC nS 9) := ⟨rfl, rfl, (rE_cons (rK_R (by decide)) (rE_cons (rK_R (by decide)) (rE_cons rK_I (rE_cons rK_I rE_nil))))⟩
theorem rs_rP_10 {nC nS : Int} : rS zt_rP (SHc nC nS 10) (SHc nC nS 10) := ⟨rfl, rfl, (rE_cons rK_I (rE_cons rK_I (rE_cons rK_I (rE_cons rK_I (rE_cons rK_I (rE_cons rK_I (rE_cons rK_I (rE_cons rK_I (rE_cons rK_I (rE_cons rK_I (rE_cons rK_I (rE_cons rK_I rE_nil))))))))))))⟩
theorem rs_rP_11 {nC nS : Int} : rS zt_rP (SHc nC nS 11) (SHc nC nS 11) := ⟨rfl, rfl, (rE_cons (rK_R (by decide)) (rE_cons (rK_R (by decide)) (rE_cons (rK_R (by decide)) (rE_cons (rK_R (by decide)) (rE_cons (rK_R (by decide)) (rE_cons (rK_R (by decide)) (rE_cons rK_I rE_nil)))))))⟩
theorem rs_rP_12 {nC nS : Int} : rS zt_rP (SHc nC nS 12) (SHc nC nS 12) := ⟨rfl, rfl, (rE_cons (rK_R (by decide)) (rE_cons (rK_R (by decide)) (rE_cons rK_I rE_nil)))⟩
theorem rs_rP_13 {nC nS : Int} : rS zt_rP (SHc nC nS 13) (SHc nC nS 13) := ⟨rfl, rfl, (rE_cons (rK_R (by decide)) (rE_cons (rK_R (by decide)) (rE_cons rK_I (rE_cons rK_I (rE_cons rK_I (rE_cons rK_I (rE_cons rK_I (rE_cons rK_I (rE_cons rK_I (rE_cons rK_I (rE_cons rK_I (rE_cons rK_I rE_nil))))))))))))⟩
theorem rs_rP_16 {nC nS : Int} : rS zt_rP (SHc nC nS 16) (SHc nC nS 16) := ⟨rfl, rfl, (rE_ga rK_I)⟩
theorem rs_rP_17 {nC nS : Int} : rS zt_rP (SHc nC nS 17) (SHc nC nS 17) := ⟨rfl, rfl, (rE_gnb (by decide))⟩
theorem rs_rP_18 {nC nS : Int} : rS zt_rP (SHc nC nS 18) (SHc nC nS 18) := ⟨rfl, rfl, (rE_ga (rK_R (by decide)))⟩
theorem rs_rP_19 {nC nS : Int} : rS zt_rP (SHc nC nS 19) (SHc nC nS 19) := ⟨rfl, rfl, (rE_ga rK_I)⟩
theorem rs_rP_20 {nC nS : Int} : rS zt_rP (SHc nC nS 20) (SHc nC nS 20) := ⟨rfl, rfl, (rE_ga rK_I)⟩
theorem rs_rP_21 {nC nS : Int} : rS zt_rP (SHc nC nS 21) (SHc nC nS 21) := ⟨rfl, rfl, (rE_ga rK_I)⟩
theorem rs_rP_22 {nC nS : Int} : rS zt_rP (SHc nC nS 22) (SHc nC nS 22) := ⟨rfl, rfl, (rE_ga rK_I)⟩
theorem rs_rP_23 {nC nS : Int} : rS zt_rP (SHc nC nS 23) (SHc nC nS 23) := ⟨rfl, rfl, (rE_ga rK_I)⟩
theorem rs_rP_24 {nC nS : Int} : rS zt_rP (SHc nC nS 24) (SHc nC nS 24) := ⟨rfl, rfl, (rE_ga rK_I)⟩
theorem rs_rP_25 {nC nS : Int} : rS zt_rP (SHc nC nS 25) (SHc nC nS 25) := ⟨rfl, rfl, (rE_ga rK_I)⟩
theorem rs_rP_26 {nC nS : Int} : rS zt_rP (SHc nC nS 26) (SHc nC nS 26) := ⟨rfl, rfl, (rE_ga rK_I)⟩
theorem rs_rP_27 {nC nS : Int} : rS zt_rP (SHc nC nS 27) (SHc nC nS 27) := ⟨rfl, rfl, (rE_ga rK_I)⟩
theorem rs_rP_28 {nC nS : Int} : rS zt_rP (SHc nC nS 28) (SHc nC nS 28) := ⟨rfl, rfl, (rE_ga rK_I)⟩
theorem rs_rP_29 {nC nS : Int} : rS zt_rP (SHc nC nS 29) (SHc nC nS 29) := ⟨rfl, rfl, (rE_ga rK_I)⟩
theorem rs_rP_30 {nC nS : Int} : rS zt_rP (SHc nC nS 30) (SHc nC nS 30) := ⟨rfl, rfl, (rE_ga rK_I)⟩
theorem rs_rP_31 {nC nS : Int} : rS zt_rP (SHc nC nS 31) (SHc nC nS 31) := ⟨rfl, rfl, (rE_ga rK_I)⟩
theorem rs_rP_32 {nC nS : Int} : rS zt_rP (SHc nC nS 32) (SHc nC nS 32) := ⟨rfl, rfl, (rE_ga rK_I)⟩
theorem rs_rP_33 {nC nS : Int} : rS zt_rP (SHc nC nS 33) (SHc nC nS 33) := ⟨rfl, rfl, (rE_ga rK_I)⟩
theorem rs_rP_34 {nC nS : Int} : rS zt_rP (SHc nC nS 34) (SHc nC nS 34) := ⟨rfl, rfl, (rE_ga rK_I)⟩
theorem rs_rP_35 {nC nS : Int} : rS zt_rP (SHc nC nS 35) (SHc nC nS 35) := ⟨rfl, rfl, (rE_ga rK_I)⟩
theorem rs_rP_36 {nC nS : Int} : rS zt_rP (SHc nC nS 36) (SHc nC nS 36) := ⟨rfl, rfl, (rE_ga rK_I)⟩
theorem rs_rP_37 {nC nS : Int} : rS zt_rP (SHc nC nS 37) (SHc nC nS 37) := ⟨rfl, rfl, (rE_ga rK_I)⟩
theorem rs_rP_38 {nC nS : Int} : rS zt_rP (SHc nC nS 38) (SHc nC nS 38) := ⟨rfl, rfl, (rE_ga rK_I)⟩
theorem rs_rP_39 {nC nS : Int} : rS zt_rP (SHc nC nS 39) (SHc nC nS 39) := ⟨rfl, rfl, (rE_ga rK_I)⟩
theorem rs_rP_40 {nC nS : Int} : rS zt_rP (SHc nC nS 40) (SHc nC nS 40) := ⟨rfl, rfl, (rE_ga rK_I)⟩
theorem rs_rP_41 {nC nS : Int} : rS zt_rP (SHc nC nS 41) (SHc nC nS 41) := ⟨rfl, rfl, (rE_ga rK_I)⟩
theorem rs_rP_42 {nC nS : Int} : rS zt_rP (SHc nC nS 42) (SHc nC nS 42) := ⟨rfl, rfl, (rE_ga rK_I)⟩
theorem rs_rP_43 {nC nS : Int} : rS zt_rP (SHc nC nS 43) (SHc nC nS 43) := ⟨rfl, rfl, (rE_ga rK_I)⟩
theorem rs_rP_44 {nC nS : Int} : rS zt_rP (SHc nC nS 44) (SHc nC nS 44) := ⟨rfl, rfl, (rE_ga rK_I)⟩
theorem rs_rP_45 {nC nS : Int} : rS zt_rP (SHc nC nS 45) (SHc nC nS 45) := ⟨rfl, rfl, (rE_ga rK_I)⟩
theorem rs_rP_46 {nC nS : Int} : rS zt_rP (SHc nC nS 46) (SHc nC nS 46) := ⟨rfl, rfl, (rE_ga rK_I)⟩
theorem rs_rP_47 {nC nS : Int} : rS zt_rP (SHc nC nS 47) (SHc nC nS 47) := ⟨rfl, rfl, (rE_ga rK_I)⟩
theorem rs_rP_48 {nC nS : Int} : rS zt_rP (SHc nC nS 48) (SHc nC nS 48) := ⟨rfl, rfl, (rE_ga rK_I)⟩
theorem rs_rP_49 {nC nS : Int} : rS zt_rP (SHc nC nS 49) (SHc nC nS 49) := ⟨rfl, rfl, (rE_ga rK_I)⟩
theorem rs_rP_50 {nC nS : Int} : rS zt_rP (SHc nC nS 50) (SHc nC nS 50) := ⟨rfl, rfl, (rE_ga rK_J)⟩
theorem rs_rP_51 {nC nS : Int} : rS zt_rP (SHc nC nS 51) (SHc nC nS 51) := ⟨rfl, rfl, (rE_gnb (by decide))⟩
theorem rs_rP_52 {nC nS : Int} : rS zt_rP (SHc nC nS 52) (SHc nC nS 52) := ⟨rfl, rfl, (rE_ga rK_I)⟩
theorem rs_rP_53 {nC nS : Int} : rS zt_rP (SHc nC nS 53) (SHc nC nS 53) := ⟨rfl, rfl, (rE_ga rK_I)⟩
theorem rs_rP_54 {nC nS : Int} : rS zt_rP (SHc nC nS 54) (SHc nC nS 54) := ⟨rfl, rfl, (rE_ga rK_I)⟩
theorem rs_rP_55 {nC nS : Int} : rS zt_rP (SHc nC nS 55) (SHc nC nS 55) := ⟨rfl, rfl, (rE_ga rK_I)⟩
theorem rs_rP_56 {nC nS : Int} : rS zt_rP (SHc nC nS 56) (SHc nC nS 56) := ⟨rfl, rfl, (rE_ga rK_J)⟩
theorem rs_rP_57 {nC nS : Int} : rS zt_rP (SHc nC nS 57) (SHc nC nS 57) := ⟨rfl, rfl, (rE_ga rK_I)⟩
theorem rs_rP_58 {nC nS : Int} : rS zt_rP (SHc nC nS 58) (SHc nC nS 58) := ⟨rfl, rfl, (rE_ga rK_I)⟩
theorem rs_rP_59 {nC nS : Int} : rS zt_rP (SHc nC nS 59) (SHc nC nS 59) := ⟨rfl, rfl, (rE_ga rK_I)⟩
theorem rs_rP_60 {nC nS : Int} : rS zt_rP (SHc nC nS 60) (SHc nC nS 60) := ⟨rfl, rfl, (rE_ga rK_I)⟩
theorem rs_rP_61 {nC nS : Int} : rS zt_rP (SHc nC nS 61) (SHc nC nS 61) := ⟨rfl, rfl, (rE_ga rK_I)⟩
theorem rs_rP_62 {nC nS : Int} : rS zt_rP (SHc nC nS 62) (SHc nC nS 62) := ⟨rfl, rfl, (rE_ga rK_I)⟩
theorem rs_rP_63 {nC nS : Int} : rS zt_rP (SHc nC nS 63) (SHc nC nS 63) := ⟨rfl, rfl, (rE_ga rK_I)⟩
theorem rs_rP_64 {nC nS : Int} : rS zt_rP (SHc nC nS 64) (SHc nC nS 64) := ⟨rfl, rfl, (rE_ga rK_I)⟩
theorem rs_rP_65 {nC nS : Int} : rS zt_rP (SHc nC nS 65) (SHc nC nS 65) := ⟨rfl, rfl, (rE_ga rK_I)⟩
theorem rs_rP_66 {nC nS : Int} : rS zt_rP (SHc nC nS 66) (SHc nC nS 66) := ⟨rfl, rfl, (rE_ga rK_I)⟩
theorem rs_rP_67 {nC nS : Int} : rS zt_rP (SHc nC nS 67) (SHc nC nS 67) := ⟨rfl, rfl, (rE_ga rK_I)⟩
theorem rs_rP_68 {nC nS : Int} : rS zt_rP (SHc nC nS 68) (SHc nC nS 68) := ⟨rfl, rfl, (rE_ga rK_I)⟩
theorem rs_rP_69 {nC nS : Int} : rS zt_rP (SHc nC nS 69) (SHc nC nS 69) := ⟨rfl, rfl, (rE_ga rK_I)⟩
theorem rs_rP_70 {nC nS : Int} : rS zt_rP (SHc nC nS 70) (SHc nC nS 70) := ⟨rfl, rfl, (rE_ga (rK_R (by decide)))⟩
theorem rs_rP_71 {nC nS : Int} : rS zt_rP (SHc nC nS 71) (SHc nC nS 71) := ⟨rfl, rfl, (rE_ga rK_I)⟩
theorem rs_rP_72 {nC nS : Int} : rS zt_rP (SHc nC nS 72) (SHc nC nS 72) := ⟨rfl, rfl, (rE_ga rK_I)⟩
theorem rs_rP_73 {nC nS : Int} : rS zt_rP (SHc nC nS 73) (SHc nC nS 73) := ⟨rfl, rfl, (rE_ga rK_I)⟩
theorem rs_rP_74 {nC nS : Int} : rS zt_rP (SHc nC nS 74) (SHc nC nS 74) := ⟨rfl, rfl, (rE_ga rK_I)⟩
theorem rs_rP_75 {nC nS : Int} : rS zt_rP (SHc nC nS 75) (SHc nC nS 75) := ⟨rfl, rfl, (rE_ga rK_I)⟩
theorem rs_rP_76 {nC nS : Int} : rS zt_rP (SHc nC nS 76) (SHc nC nS 76) := ⟨rfl, rfl, (rE_ga rK_I)⟩
theorem rs_rP_77 {nC nS : Int} : rS zt_rP (SHc nC nS 77) (SHc nC nS 77) := ⟨rfl, rfl, (rE_ga rK_I)⟩
theorem rs_rP_78 {nC nS : Int} : rS zt_rP (SHc nC nS 78) (SHc nC nS 78) := ⟨rfl, rfl, (rE_ga rK_I)⟩
theorem rs_rP_79 {nC nS : Int} : rS zt_rP (SHc nC nS 79) (SHc nC nS 79) := ⟨rfl, rfl, (rE_ga rK_I)⟩
theorem rs_rP_80 {nC nS : Int} : rS zt_rP (SHc nC nS 80) (SHc nC nS 80) := ⟨rfl, rfl, (rE_ga rK_I)⟩
theorem rs_rP_81 {nC nS : Int} : rS zt_rP (SHc nC nS 81) (SHc nC nS 81) := ⟨rfl, rfl, (rE_ga rK_I)⟩
theorem rs_rP_82 {nC nS : Int} : rS zt_rP (SHc nC nS 82) (SHc nC nS 82) := ⟨rfl, rfl, (rE_ga rK_I)⟩
theorem rs_rP_83 {nC nS : Int} : rS zt_rP (SHc nC nS 83) (SHc nC nS 83) := ⟨rfl, rfl, (rE_ga rK_I)⟩
theorem rs_rP_84 {nC nS : Int} : rS zt_rP (SHc nC nS 84) (SHc nC nS 84) := ⟨rfl, rfl, (rE_ga rK_I)⟩
theorem rs_rP_85 {nC nS : Int} : rS zt_rP (SHc nC nS 85) (SHc nC nS 85) := ⟨rfl, rfl, (rE_ga rK_I)⟩
theorem rs_rP_86 {nC nS : Int} : rS zt_rP (SHc nC nS 86) (SHc nC nS 86) := ⟨rfl, rfl, (rE_ga rK_I)⟩
theorem rs_rP_87 {nC nS : Int} : rS zt_rP (SHc nC nS 87) (SHc nC nS 87) := ⟨rfl, rfl, (rE_ga rK_I)⟩
theorem rs_rP_88 {nC nS : Int} : rS zt_rP (SHc nC nS 88) (SHc nC nS 88) := ⟨rfl, rfl, (rE_ga rK_I)⟩
theorem rs_rP_89 {nC nS : Int} : rS zt_rP (SHc nC nS 89) (SHc nC nS 89) := ⟨rfl, rfl, (rE_ga rK_I)⟩
theorem rs_rP_90 {nC nS : Int} : rS zt_rP (SHc nC nS 90) (SHc nC nS 90) := ⟨rfl, rfl, (rE_cons (rK_R (by decide)) (rE_cons (rK_R (by decide)) (rE_cons (rK_R (by decide)) (rE_cons rK_I (rE_cons rK_I rE_nil)))))⟩
theorem rs_rP_91 {nC nS : Int} : rS zt_rP (SHc nC nS 91) (SHc nC nS 91) := ⟨rfl, rfl, (rE_cons (rK_R (by decide)) (rE_cons (rK_R (by decide)) (rE_cons (rK_R (by decide)) (rE_cons (rK_R (by decide)) (rE_cons (rK_R (by decide)) (rE_cons (rK_R (by decide)) (rE_cons rK_I rE_nil)))))))⟩
theorem rs_rP_92 {nC nS : Int} : rS zt_rP (SHc nC nS 92) (SHc nC nS 92) := ⟨rfl, rfl, (rE_cons (rK_R (by decide)) (rE_cons (rK_R (by decide)) (rE_cons rK_I rE_nil)))⟩
theorem rs_rP_93 {nC nS : Int} : rS zt_rP (SHc nC nS 93) (SHc nC nS 93) := ⟨rfl, rfl, (rE_cons (rK_R (by decide)) (rE_cons (rK_R (by decide)) (rE_cons (rK_R (by decide)) (rE_cons (rK_R (by decide)) (rE_cons (rK_R (by decide)) (rE_cons (rK_R (by decide)) (rE_cons (rK_R (by decide)) (rE_cons (rK_R (by decide)) (rE_cons (rK_R (by decide)) (rE_cons (rK_R (by decide)) (rE_cons (rK_R (by decide)) (rE_cons rK_I (rE_cons rK_I (rE_cons rK_I (rE_cons rK_I rE_nil)))))))))))))))⟩
theorem rs_rP_94 {nC nS : Int} : rS zt_rP (SHc nC nS 94) (SHc nC nS 94) := ⟨rfl, rfl, (rE_cons (rK_R (by decide)) (rE_cons (rK_R (by decide)) (rE_cons rK_I (rE_cons rK_I (rE_cons rK_I (rE_cons rK_I (rE_cons rK_I (rE_cons rK_I (rE_cons rK_I (rE_cons rK_I (rE_cons rK_I (rE_cons rK_I rE_nil))))))))))))⟩
theorem rs_rP_98 {nC nS : Int} : rS zt_rP (SHc nC nS 98) (SHc nC nS 98) := ⟨rfl, rfl, (rE_ga rK_J)⟩
theorem rs_rP_140 {nC nS : Int} : rS zt_rP (SHc nC nS 140) (SHc nC nS 152) := ⟨rfl, rfl, (rE_cons (rK_R (by decide)) (rE_cons (rK_R (by decide)) (rE_cons (rK_R (by decide)) (rE_cons (rK_R (by decide)) (rE_cons (rK_R (by decide)) (rE_cons (rK_R (by decide)) (rE_cons (rK_R (by decide)) (rE_cons (rK_R (by decide)) (rE_cons (rK_R (by decide)) (rE_cons (rK_R (by decide)) (rE_cons (rK_R (by decide)) (rE_cons rK_I (rE_cons rK_I (rE_cons rK_I rE_nil))))))))))))))⟩
theorem rs_rP_141 {nC nS : Int} : rS zt_rP (SHc nC nS 141) (SHc nC nS 153) := ⟨rfl, rfl, (rE_ga rK_I)⟩
theorem rs_rP_142 {nC nS : Int} : rS zt_rP (SHc nC nS 142) (SHc nC nS 154) := ⟨rfl, rfl, (rE_ga rK_I)⟩
theorem rs_rP_143 {nC nS : Int} : rS zt_rP (SHc nC nS 143) (SHc nC nS 155) := ⟨rfl, rfl, (rE_ga rK_I)⟩
theorem rs_rP_144 {nC nS : Int} : rS zt_rP (SHc nC nS 144) (SHc nC nS 156) := ⟨rfl, rfl, (rE_ga rK_I)⟩
theorem rs_rP_145 {nC nS : Int} : rS zt_rP (SHc nC nS 145) (SHc nC nS 157) := ⟨rfl, rfl, (rE_ga rK_I)⟩
theorem rs_rP_146 {nC nS : Int} : rS zt_rP (SHc nC nS 146) (SHc nC nS 158) := ⟨rfl, rfl, (rE_ga rK_I)⟩
theorem rs_rP_147 {nC nS : Int} : rS zt_rP (SHc nC nS 147) (SHc nC nS 159) := ⟨rfl, rfl, (rE_ga rK_I)⟩
theorem rs_rP_148 {nC nS : Int} : rS zt_rP (SHc nC nS 148) (SHc nC nS 160) := ⟨rfl, rfl, (rE_ga rK_I)⟩
theorem rs_rP_149 {nC nS : Int} : rS zt_rP (SHc nC nS 149) (SHc nC nS 161) := ⟨rfl, rfl, (rE_ga rK_I)⟩
theorem rs_rP_150 {nC nS : Int} : rS zt_rP (SHc nC nS 150) (SHc nC nS 162) := ⟨rfl, rfl, (rE_ga rK_I)⟩
theorem rs_rP_151 {nC nS : Int} : rS zt_rP (SHc nC nS 151) (SHc nC nS 163) := ⟨rfl, rfl, (rE_ga rK_J)⟩
theorem rs_rP_152 {nC nS : Int} : rS zt_rP (SHc nC nS 152) (SHc nC nS 140) := ⟨rfl, rfl, (rE_cons (rK_R (by decide)) (rE_cons (rK_R (by decide)) (rE_cons (rK_R (by decide)) (rE_cons (rK_R (by decide)) (rE_cons (rK_R (by decide)) (rE_cons (rK_R (by decide)) (rE_cons (rK_R (by decide)) (rE_cons (rK_R (by decide)) (rE_cons (rK_R (by decide)) (rE_cons (rK_R (by decide)) (rE_cons (rK_R (by decide)) (rE_cons rK_I (rE_cons rK_I (rE_cons rK_I rE_nil))))))))))))))⟩
theorem rs_rP_153 {nC nS : Int} : rS zt_rP (SHc nC nS 153) (SHc nC nS 141) := ⟨rfl, rfl, (rE_ga rK_I)⟩
theorem rs_rP_154 {nC nS : Int} : rS zt_rP (SHc nC nS 154) (SHc nC nS 142) := ⟨rfl, rfl, (rE_ga rK_I)⟩
theorem rs_rP_155 {nC nS : Int} : rS zt_rP (SHc nC nS 155) (SHc nC nS 143) := ⟨rfl, rfl, (rE_ga rK_I)⟩
theorem rs_rP_156 {nC nS : Int} : rS zt_rP (SHc nC nS 156) (SHc nC nS 144) := ⟨rfl, rfl, (rE_ga rK_I)⟩
theorem rs_rP_157 {nC nS : Int} : rS zt_rP (SHc nC nS 157) (SHc nC nS 145) := ⟨rfl, rfl, (rE_ga rK_I)⟩
theorem rs_rP_158 {nC nS : Int} : rS zt_rP (SHc nC nS 158) (SHc nC nS 146) := ⟨rfl, rfl, (rE_ga rK_I)⟩
theorem rs_rP_159 {nC nS : Int} : rS zt_rP (SHc nC nS 159) (SHc nC nS 147) := ⟨rfl, rfl, (rE_ga rK_I)⟩
theorem rs_rP_160 {nC nS : Int} : rS zt_rP (SHc nC nS 160) (SHc nC nS 148) := ⟨rfl, rfl, (rE_ga rK_I)⟩
theorem rs_rP_161 {nC nS : Int} : rS zt_rP (SHc nC nS 161) (SHc nC nS 149) := ⟨rfl, rfl, (rE_ga rK_I)⟩
theorem rs_rP_162 {nC nS : Int} : rS zt_rP (SHc nC nS 162) (SHc nC nS 150) := ⟨rfl, rfl, (rE_ga rK_I)⟩
theorem rs_rP_163 {nC nS : Int} : rS zt_rP (SHc nC nS 163) (SHc nC nS 151) := ⟨rfl, rfl, (rE_ga rK_J)⟩
set_option maxRecDepth 100000 in
theorem rs_rP {nC nS : Int} : ∀ t u, t ≠ 166 → t ≠ 167 → zt_rP t = some u → rS zt_rP (SHc nC nS t) (SHc nC nS u) := by
  intro t u hne hne2 h
  have h := zt_m h
  rcases List.mem_cons.mp h with h | h
  · obtain ⟨rfl, rfl⟩ := Prod.mk.inj h
    exact rs_rP_4
  rcases List.mem_cons.mp h with h | h
  · obtain ⟨rfl, rfl⟩ := Prod.mk.inj h
    exact rs_rP_5
  rcases List.mem_cons.mp h with h | h
  · obtain ⟨rfl, rfl⟩ := Prod.mk.inj h
    exact rs_rP_6
  rcases List.mem_cons.mp h with h | h
  · obtain ⟨rfl, rfl⟩ := Prod.mk.inj h
    exact rs_rP_7
  rcases List.mem_cons.mp h with h | h
  · obtain ⟨rfl, rfl⟩ := Prod.mk.inj h
    exact rs_rP_8
  rcases List.mem_cons.mp h with h | h
  · obtain ⟨rfl, rfl⟩ := Prod.mk.inj h
    exact rs_rP_9
  rcases List.mem_cons.mp h with h | h
  · obtain ⟨rfl, rfl⟩ := Prod.mk.inj h
    exact rs_rP_10
  rcases List.mem_cons.mp h with h | h
  · obtain ⟨rfl, rfl⟩ := Prod.mk.inj h
    exact rs_rP_11
  rcases List.mem_cons.mp h with h | h
  · obtain ⟨rfl, rfl⟩ := Prod.mk.inj h
    exact rs_rP_12
  rcases List.mem_cons.mp h with h | h
  · obtain ⟨rfl, rfl⟩ := Prod.mk.inj h
    exact rs_rP_13
  rcases List.mem_cons.mp h with h | h
  · obtain ⟨rfl, rfl⟩ := Prod.mk.inj h
    exact rs_rP_16
  rcases List.mem_cons.mp h with h | h
  · obtain ⟨rfl, rfl⟩ := Prod.mk.inj h
    exact rs_rP_17
  rcases List.mem_cons.mp h with h | h
  · obtain ⟨rfl, rfl⟩ := Prod.mk.inj h
    exact rs_rP_18
  rcases List.mem_cons.mp h with h | h
  · obtain ⟨rfl, rfl⟩ := Prod.mk.inj h
    exact rs_rP_19
  rcases List.mem_cons.mp h with h | h
  · obtain ⟨rfl, rfl⟩ := Prod.mk.inj h
    exact rs_rP_20
  rcases List.mem_cons.mp h with h | h
  · obtain ⟨rfl, rfl⟩ := Prod.mk.inj h
    exact rs_rP_21
  rcases List.mem_cons.mp h with h | h
  · obtain ⟨rfl, rfl⟩ := Prod.mk.inj h
    exact rs_rP_22
  rcases List.mem_cons.mp h with h | h
  · obtain ⟨rfl, rfl⟩ := Prod.mk.inj h
    exact rs_rP_23
  rcases List.mem_cons.mp h with h | h
  · obtain ⟨rfl, rfl⟩ := Prod.mk.inj h
    exact rs_rP_24
  rcases List.mem_cons.mp h with h | h
  · obtain ⟨rfl, rfl⟩ := Prod.mk.inj h
    exact rs_rP_25
  rcases List.mem_cons.mp h with h | h
  · obtain ⟨rfl, rfl⟩ := Prod.mk.inj h
    exact rs_rP_26
  rcases List.mem_cons.mp h with h | h
  · obtain ⟨rfl, rfl⟩ := Prod.mk.inj h
    exact rs_rP_27
  rcases List.mem_cons.mp h with h | h
  · obtain ⟨rfl, rfl⟩ := Prod.mk.inj h
    exact rs_rP_28
  rcases List.mem_cons.mp h with h | h
  · obtain ⟨rfl, rfl⟩ := Prod.mk.inj h
    exact rs_rP_29
  rcases List.mem_cons.mp h with h | h
  · obtain ⟨rfl, rfl⟩ := Prod.mk.inj h
    exact rs_rP_30
  rcases List.mem_cons.mp h with h | h
  · obtain ⟨rfl, rfl⟩ := Prod.mk.inj h
    exact rs_rP_31
  rcases List.mem_cons.mp h with h | h
  · obtain ⟨rfl, rfl⟩ := Prod.mk.inj h
    exact rs_rP_32
  rcases List.mem_cons.mp h with h | h
  · obtain ⟨rfl, rfl⟩ := Prod.mk.inj h
    exact rs_rP_33
  rcases List.mem_cons.mp h with h | h
  · obtain ⟨rfl, rfl⟩ := Prod.mk.inj h
    exact rs_rP_34
  rcases List.mem_cons.mp h with h | h
  · obtain ⟨rfl, rfl⟩ := Prod.mk.inj h
    exact rs_rP_35
  rcases List.mem_cons.mp h with h | h
  · obtain ⟨rfl, rfl⟩ := Prod.mk.inj h
    exact rs_rP_36
  rcases List.mem_cons.mp h with h | h
  · obtain ⟨rfl, rfl⟩ := Prod.mk.inj h
    exact rs_rP_37
  rcases List.mem_cons.mp h with h | h
  · obtain ⟨rfl, rfl⟩ := Prod.mk.inj h
    exact rs_rP_38
  rcases List.mem_cons.mp h with h | h
  · obtain ⟨rfl, rfl⟩ := Prod.mk.inj h
    exact rs_rP_39
  rcases List.mem_cons.mp h with h | h
  · obtain ⟨rfl, rfl⟩ := Prod.mk.inj h
    exact rs_rP_40
  rcases List.mem_cons.mp h with h | h
  · obtain ⟨rfl, rfl⟩ := Prod.mk.inj h
    exact rs_rP_41
  rcases List.mem_cons.mp h with h | h
  · obtain ⟨rfl, rfl⟩ := Prod.mk.inj h
    exact rs_rP_42
  rcases List.mem_cons.mp h with h | h
  · obtain ⟨rfl, rfl⟩ := Prod.mk.inj h
    exact rs_rP_43
  rcases List.mem_cons.mp h with h | h
  · obtain ⟨rfl, rfl⟩ := Prod.mk.inj h
    exact rs_rP_44
  rcases List.mem_cons.mp h with h | h
  · obtain ⟨rfl, rfl⟩ := Prod.mk.inj h
    exact rs_rP_45
  rcases List.mem_cons.mp h with h | h
  · obtain ⟨rfl, rfl⟩ := Prod.mk.inj h
    exact rs_rP_46
  rcases List.mem_cons.mp h with h | h
  · obtain ⟨rfl, rfl⟩ := Prod.mk.inj h
    exact rs_rP_47
  rcases List.mem_cons.mp h with h | h
  · obtain ⟨rfl, rfl⟩ := Prod.mk.inj h
    exact rs_rP_48
  rcases List.mem_cons.mp h with h | h
  · obtain ⟨rfl, rfl⟩ := Prod.mk.inj h
    exact rs_rP_49
  rcases List.mem_cons.mp h with h | h
  · obtain ⟨rfl, rfl⟩ := Prod.mk.inj h
    exact rs_rP_50
  rcases List.mem_cons.mp h with h | h
  · obtain ⟨rfl, rfl⟩ := Prod.mk.inj h
    exact rs_rP_51
  rcases List.mem_cons.mp h with h | h
  · obtain ⟨rfl, rfl⟩ := Prod.mk.inj h
    exact rs_rP_52
  rcases List.mem_cons.mp h with h | h
  · obtain ⟨rfl, rfl⟩ := Prod.mk.inj h
    exact rs_rP_53
  rcases List.mem_cons.mp h with h | h
  · obtain ⟨rfl, rfl⟩ := Prod.mk.inj h
    exact rs_rP_54
  rcases List.mem_cons.mp h with h | h
  · obtain ⟨rfl, rfl⟩ := Prod.mk.inj h
    exact rs_rP_55
  rcases List.mem_cons.mp h with h | h
  · obtain ⟨rfl, rfl⟩ := Prod.mk.inj h
    exact rs_rP_56
  rcases List.mem_cons.mp h with h | h
  · obtain ⟨rfl, rfl⟩ := Prod.mk.inj h
    exact rs_rP_57
  rcases List.mem_cons.mp h with h | h
  · obtain ⟨rfl, rfl⟩ := Prod.mk.inj h
    exact rs_rP_58
  rcases List.mem_cons.mp h with h | h
  · obtain ⟨rfl, rfl⟩ := Prod.mk.inj h
    exact rs_rP_59
  rcases List.mem_cons.mp h with h | h
  · obtain ⟨rfl, rfl⟩ := Prod.mk.inj h
    exact rs_rP_60
  rcases List.mem_cons.mp h with h | h
  · obtain ⟨rfl, rfl⟩ := Prod.mk.inj h
    exact rs_rP_61
  rcases List.mem_cons.mp h with h | h
  · obtain ⟨rfl, rfl⟩ := Prod.mk.inj h
    exact rs_rP_62
  rcases List.mem_cons.mp h with h | h
  · obtain ⟨rfl, rfl⟩ := Prod.mk.inj h
    exact rs_rP_63
  rcases List.mem_cons.mp h with h | h
  · obtain ⟨rfl, rfl⟩ := Prod.mk.inj h
    exact rs_rP_64
  rcases List.mem_cons.mp h with h | h
  · obtain ⟨rfl, rfl⟩ := Prod.mk.inj h
    exact rs_rP_65
  rcases List.mem_cons.mp h with h | h
  · obtain ⟨rfl, rfl⟩ := Prod.mk.inj h
    exact rs_rP_66
  rcases List.mem_cons.mp h with h | h
  · obtain ⟨rfl, rfl⟩ := Prod.mk.inj h
    exact rs_rP_67
  rcases List.mem_cons.mp h with h | h
  · obtain ⟨rfl, rfl⟩ := Prod.mk.inj h
    exact rs_rP_68
  rcases List.mem_cons.mp h with h | h
  · obtain ⟨rfl, rfl⟩ := Prod.mk.inj h
    exact rs_rP_69
  rcases List.mem_cons.mp h with h | h
  · obtain ⟨rfl, rfl⟩ := Prod.mk.inj h
    exact rs_rP_70
  rcases List.mem_cons.mp h with h | h
  · obtain ⟨rfl, rfl⟩ := Prod.mk.inj h
    exact rs_rP_71
  rcases List.mem_cons.mp h with h | h
  · obtain ⟨rfl, rfl⟩ := Prod.mk.inj h
    exact rs_rP_72
  rcases List.mem_cons.mp h with h | h
  · obtain ⟨rfl, rfl⟩ := Prod.mk.inj h
    exact rs_rP_73
  rcases List.mem_cons.mp h with h | h
  · obtain ⟨rfl, rfl⟩ := Prod.mk.inj h
    exact rs_rP_74
  rcases List.mem_cons.mp h with h | h
  · obtain ⟨rfl, rfl⟩ := Prod.mk.inj h
    exact rs_rP_75
  rcases List.mem_cons.mp h with h | h
  · obtain ⟨rfl, rfl⟩ := Prod.mk.inj h
    exact rs_rP_76
  rcases List.mem_cons.mp h with h | h
  · obtain ⟨rfl, rfl⟩ := Prod.mk.inj h
    exact rs_rP_77
  rcases List.mem_cons.mp h with h | h
  · obtain ⟨rfl, rfl⟩ := Prod.mk.inj h
    exact rs_rP_78
  rcases List.mem_cons.mp h with h | h
  · obtain ⟨rfl, rfl⟩ := Prod.mk.inj h
    exact rs_rP_79
  rcases List.mem_cons.mp h with h | h
  · obtain ⟨rfl, rfl⟩ := Prod.mk.inj h
    exact rs_rP_80
  rcases List.mem_cons.mp h with h | h
  · obtain ⟨rfl, rfl⟩ := Prod.mk.inj h
    exact rs_rP_81
  rcases List.mem_cons.mp h with h | h
  · obtain ⟨rfl, rfl⟩ := Prod.mk.inj h
    exact rs_rP_82
  rcases List.mem_cons.mp h with h | h
  · obtain ⟨rfl, rfl⟩ := Prod.mk.inj h
    exact rs_rP_83
  rcases List.mem_cons.mp h with h | h
  · obtain ⟨rfl, rfl⟩ := Prod.mk.inj h
    exact rs_rP_84
  rcases List.mem_cons.mp h with h | h
  · obtain ⟨rfl, rfl⟩ := Prod.mk.inj h
    exact rs_rP_85
  rcases List.mem_cons.mp h with h | h
  · obtain ⟨rfl, rfl⟩ := Prod.mk.inj h
    exact rs_rP_86
  rcases List.mem_cons.mp h with h | h
  · obtain ⟨rfl, rfl⟩ := Prod.mk.inj h
    exact rs_rP_87
  rcases List.mem_cons.mp h with h | h
  · obtain ⟨rfl, rfl⟩ := Prod.mk.inj h
    exact rs_rP_88
  rcases List.mem_cons.mp h with h | h
  · obtain ⟨rfl, rfl⟩ := Prod.mk.inj h
    exact rs_rP_89
  rcases List.mem_cons.mp h with h | h
  · obtain ⟨rfl, rfl⟩ := Prod.mk.inj h
    exact rs_rP_90
  rcases List.mem_cons.mp h with h | h
  · obtain ⟨rfl, rfl⟩ := Prod.mk.inj h
    exact rs_rP_91
  rcases List.mem_cons.mp h with h | h
  · obtain ⟨rfl, rfl⟩ := Prod.mk.inj h
    exact rs_rP_92
  rcases List.mem_cons.mp h with h | h
  · obtain ⟨rfl, rfl⟩ := Prod.mk.inj h
    exact rs_rP_93
  rcases List.mem_cons.mp h with h | h
  · obtain ⟨rfl, rfl⟩ := Prod.mk.inj h
    exact rs_rP_94
  rcases List.mem_cons.mp h with h | h
  · obtain ⟨rfl, rfl⟩ := Prod.mk.inj h
    exact rs_rP_98
  rcases List.mem_cons.mp h with h | h
  · obtain ⟨rfl, rfl⟩ := Prod.mk.inj h
    exact rs_rP_140
  rcases List.mem_cons.mp h with h | h
  · obtain ⟨rfl, rfl⟩ := Prod.mk.inj h
    exact rs_rP_141
  rcases List.mem_cons.mp h with h | h
  · obtain ⟨rfl, rfl⟩ := Prod.mk.inj h
    exact rs_rP_142
  rcases List.mem_cons.mp h with h | h
  · obtain ⟨rfl, rfl⟩ := Prod.mk.inj h
    exact rs_rP_143
  rcases List.mem_cons.mp h with h | h
  · obtain ⟨rfl, rfl⟩ := Prod.mk.inj h
    exact rs_rP_144
  rcases List.mem_cons.mp h with h | h
  · obtain ⟨rfl, rfl⟩ := Prod.mk.inj h
    exact rs_rP_145
  rcases List.mem_cons.mp h with h | h
  · obtain ⟨rfl, rfl⟩ := Prod.mk.inj h
    exact rs_rP_146
  rcases List.mem_cons.mp h with h | h
  · obtain ⟨rfl, rfl⟩ := Prod.mk.inj h
    exact rs_rP_147
  rcases List.mem_cons.mp h with h | h
  · obtain ⟨rfl, rfl⟩ := Prod.mk.inj h
    exact rs_rP_148
  rcases List.mem_cons.mp h with h | h
  · obtain ⟨rfl, rfl⟩ := Prod.mk.inj h
    exact rs_rP_149
  rcases List.mem_cons.mp h with h | h
  · obtain ⟨rfl, rfl⟩ := Prod.mk.inj h
    exact rs_rP_150
  rcases List.mem_cons.mp h with h | h
  · obtain ⟨rfl, rfl⟩ := Prod.mk.inj h
    exact rs_rP_151
  rcases List.mem_cons.mp h with h | h
  · obtain ⟨rfl, rfl⟩ := Prod.mk.inj h
    exact rs_rP_152
  rcases List.mem_cons.mp h with h | h
  · obtain ⟨rfl, rfl⟩ := Prod.mk.inj h
    exact rs_rP_153
  rcases List.mem_cons.mp h with h | h
  · obtain ⟨rfl, rfl⟩ := Prod.mk.inj h
    exact rs_rP_154
  rcases List.mem_cons.mp h with h | h
  · obtain ⟨rfl, rfl⟩ := Prod.mk.inj h
    exact rs_rP_155
  rcases List.mem_cons.mp h with h | h
  · obtain ⟨rfl, rfl⟩ := Prod.mk.inj h
    exact rs_rP_156
  rcases List.mem_cons.mp h with h | h
  · obtain ⟨rfl, rfl⟩ := Prod.mk.inj h
    exact rs_rP_157
  rcases List.mem_cons.mp h with h | h
  · obtain ⟨rfl, rfl⟩ := Prod.mk.inj h
    exact rs_rP_158
  rcases List.mem_cons.mp h with h | h
  · obtain ⟨rfl, rfl⟩ := Prod.mk.inj h
    exact rs_rP_159
  rcases List.mem_cons.mp h with h | h
  · obtain ⟨rfl, rfl⟩ := Prod.mk.inj h
    exact rs_rP_160
  rcases List.mem_cons.mp h with h | h
  · obtain ⟨rfl, rfl⟩ := Prod.mk.inj h
    exact rs_rP_161
  rcases List.mem_cons.mp h with h | h
  · obtain ⟨rfl, rfl⟩ := Prod.mk.inj h
    exact rs_rP_162
  rcases List.mem_cons.mp h with h | h
  · obtain ⟨rfl, rfl⟩ := Prod.mk.inj h
    exact rs_rP_163
  rcases List.mem_cons.mp h with h | h
  · obtain ⟨rfl, rfl⟩ := Prod.mk.inj h
    exact absurd rfl hne
  rcases List.mem_cons.mp h with h | h
  · obtain ⟨rfl, rfl⟩ := Prod.mk.inj h
    exact absurd rfl hne2
  exact absurd h List.not_mem_nil
def ZL_rC : List (Nat × Nat) := ((4, 4) :: (5, 5) :: (6, 6) :: (7, 140) :: (8, 8) :: (9, 9) :: (10, 10) :: (11, 11) :: (12, 12) :: (13, 13) :: (16, 16) :: (17, 17) :: (18, 18) :: (19, 19) :: (20, 20) :: (21, 21) :: (22, 22) :: (23, 23) :: (24, 24) :: (25, 25) :: (26, 26) :: (27, 27) :: (28, 28) :: (29, 29) :: (30, 30) :: (31, 31) :: (32, 32) :: (33, 33) :: (34, 34) :: (35, 35) :: (36, 36) :: (37, 37) :: (38, 38) :: (39, 39) :: (40, 141) :: (41, 142) :: (42, 143) :: (43, 144) :: (44, 145) :: (45, 146) :: (46, 147) :: (47, 148) :: (48, 149) :: (49, 150) :: (50, 151) :: (51, 51) :: (52, 52) :: (53, 53) :: (54, 54) :: (55, 55) :: (56, 56) :: (57, 57) :: (58, 58) :: (59, 59) :: (60, 60) :: (61, 61) :: (62, 62) :: (63, 63) :: (64, 64) :: (65, 65) :: (66, 66) :: (67, 67) :: (68, 68) :: (69, 69) :: (70, 70) :: (71, 71) :: (72, 72) :: (73, 73) :: (74, 74) :: (75, 75) :: (76, 76) :: (77, 77) :: (78, 78) :: (79, 79) :: (80, 80) :: (81, 81) :: (82, 82) :: (83, 83) :: (84, 84) :: (85, 85) :: (86, 86) :: (87, 87) :: (88, 88) :: (89, 89) :: (90, 90) :: (91, 91) :: (92, 92) :: (93, 93) :: (94, 94) :: (98, 98) :: (140, 7) :: (141, 40) :: (142, 41) :: (143, 42) :: (144, 43) :: (145, 44) :: (146, 45) :: (147, 46) :: (148, 47) :: (149, 48) :: (150, 49) :: (151, 50) :: (152, 152) :: (153, 153) :: (154, 154) :: (155, 155) :: (156, 156) :: (157, 157) :: (158, 158) :: (159, 159) :: (160, 160) :: (161, 161) :: (162, 162) :: (163, 163) :: (166, 3) :: (167, 14) :: [])
def zt_rC : Nat → Option Nat := zt ZL_rC
theorem rs_rC_4 {nC nS : Int} : rS zt_rC (SHc nC nS 4) (SHc nC nS 4) := ⟨rfl, rfl, (rE_cons rK_I (rE_cons rK_I (rE_cons rK_I (rE_cons rK_I (rE_cons rK_I (rE_cons rK_I (rE_cons rK_I (rE_cons rK_I rE_nil))))))))⟩
theorem rs_rC_5 {nC nS : Int} : rS zt_rC (SHc nC nS 5) (SHc nC nS 5) := ⟨rfl, rfl, (rE_cons (rK_R (by decide)) (rE_cons (rK_R (by decide)) (rE_cons (rK_R (by decide)) (rE_cons (rK_R (by decide)) (rE_cons (rK_R (by decide)) (rE_cons (rK_R (by decide)) (rE_cons (rK_R (by decide)) (rE_cons (rK_R (by decide)) (rE_cons (rK_R (by decide)) (rE_cons (rK_R (by decide)) (rE_cons (rK_R (by decide)) (rE_cons rK_I (rE_cons rK_I (rE_cons rK_I (rE_cons rK_I rE_nil)))))))))))))))⟩
theorem rs_rC_6 {nC nS : Int} : rS zt_rC (SHc nC nS 6) (SHc nC nS 6) := ⟨rfl, rfl, (rE_cons (rK_R (by decide)) (rE_cons (rK_R (by decide)) (rE_cons (rK_R (by decide)) (rE_cons rK_I (rE_cons rK_I rE_nil)))))⟩
theorem rs_rC_7 {nC nS : Int} : rS zt_rC (SHc nC nS 7) (SHc nC nS 140) := ⟨rfl, rfl, (rE_cons (rK_R (by decide)) (rE_cons (rK_R (by decide)) (rE_cons (rK_R (by decide)) (rE_cons (rK_R (by decide)) (rE_cons (rK_R (by decide)) (rE_cons (rK_R (by decide)) (rE_cons (rK_R (by decide)) (rE_cons (rK_R (by decide)) (rE_cons (rK_R (by decide)) (rE_cons (rK_R (by decide)) (rE_cons (rK_R (by decide)) (rE_cons rK_I (rE_cons rK_I (rE_cons rK_I rE_nil))))))))))))))⟩
theorem rs_rC_8 {nC nS : Int} : rS zt_rC (SHc nC nS 8) (SHc nC nS 8) := ⟨rfl, rfl, (rE_cons (rK_R (by decide)) (rE_cons (rK_R (by decide)) (rE_cons (rK_R (by decide)) (rE_cons (rK_R (by decide)) (rE_cons (rK_R (by decide)) (rE_cons (rK_R (by decide)) (rE_cons (rK_R (by decide)) (rE_cons (rK_R (by decide)) (rE_cons (rK_R (by decide)) (rE_cons (rK_R (by decide)) (rE_cons (rK_R (by decide)) (rE_cons (rK_R (by decide)) (rE_cons rK_I (rE_cons rK_I (rE_cons rK_I (rE_cons rK_I (rE_cons rK_I rE_nil)))))))))))))))))⟩
theorem rs_rC_9 {nC nS : Int} : rS zt_rC (SHc nC nS 9) (SHc nC nS 9) := ⟨rfl, rfl, (rE_cons (rK_R (by decide)) (rE_cons (rK_R (by decide)) (rE_cons rK_I (rE_cons rK_I rE_nil))))⟩
theorem rs_rC_10 {nC nS : Int} : rS zt_rC (SHc nC nS 10) (SHc nC nS 10) := ⟨rfl, rfl, (rE_cons rK_I (rE_cons rK_I (rE_cons rK_I (rE_cons rK_I (rE_cons rK_I (rE_cons rK_I (rE_cons rK_I (rE_cons rK_I (rE_cons rK_I (rE_cons rK_I (rE_cons rK_I (rE_cons rK_I rE_nil))))))))))))⟩
theorem rs_rC_11 {nC nS : Int} : rS zt_rC (SHc nC nS 11) (SHc nC nS 11) := ⟨rfl, rfl, (rE_cons (rK_R (by decide)) (rE_cons (rK_R (by decide)) (rE_cons (rK_R (by decide)) (rE_cons (rK_R (by decide)) (rE_cons (rK_R (by decide)) (rE_cons (rK_R (by decide)) (rE_cons rK_I rE_nil)))))))⟩
theorem rs_rC_12 {nC nS : Int} : rS zt_rC (SHc nC nS 12) (SHc nC nS 12) := ⟨rfl, rfl, (rE_cons (rK_R (by decide)) (rE_cons (rK_R (by decide)) (rE_cons rK_I rE_nil)))⟩
theorem rs_rC_13 {nC nS : Int} : rS zt_rC (SHc nC nS 13) (SHc nC nS 13) := ⟨rfl, rfl, (rE_cons (rK_R (by decide)) (rE_cons (rK_R (by decide)) (rE_cons rK_I (rE_cons rK_I (rE_cons rK_I (rE_cons rK_I (rE_cons rK_I (rE_cons rK_I (rE_cons rK_I (rE_cons rK_I (rE_cons rK_I (rE_cons rK_I rE_nil))))))))))))⟩
theorem rs_rC_16 {nC nS : Int} : rS zt_rC (SHc nC nS 16) (SHc nC nS 16) := ⟨rfl, rfl, (rE_ga rK_I)⟩
theorem rs_rC_17 {nC nS : Int} : rS zt_rC (SHc nC nS 17) (SHc nC nS 17) := ⟨rfl, rfl, (rE_gnb (by decide))⟩
theorem rs_rC_18 {nC nS : Int} : rS zt_rC (SHc nC nS 18) (SHc nC nS 18) := ⟨rfl, rfl, (rE_ga (rK_R (by decide)))⟩
theorem rs_rC_19 {nC nS : Int} : rS zt_rC (SHc nC nS 19) (SHc nC nS 19) := ⟨rfl, rfl, (rE_ga rK_I)⟩
theorem rs_rC_20 {nC nS : Int} : rS zt_rC (SHc nC nS 20) (SHc nC nS 20) := ⟨rfl, rfl, (rE_ga rK_I)⟩
theorem rs_rC_21 {nC nS : Int} : rS zt_rC (SHc nC nS 21) (SHc nC nS 21) := ⟨rfl, rfl, (rE_ga rK_I)⟩
theorem rs_rC_22 {nC nS : Int} : rS zt_rC (SHc nC nS 22) (SHc nC nS 22) := ⟨rfl, rfl, (rE_ga rK_I)⟩
theorem rs_rC_23 {nC nS : Int} : rS zt_rC (SHc nC nS 23) (SHc nC nS 23) := ⟨rfl, rfl, (rE_ga rK_I)⟩
theorem rs_rC_24 {nC nS : Int} : rS zt_rC (SHc nC nS 24) (SHc nC nS 24) := ⟨rfl, rfl, (rE_ga rK_I)⟩
theorem rs_rC_25 {nC nS : Int} : rS zt_rC (SHc nC nS 25) (SHc nC nS 25) := ⟨rfl, rfl, (rE_ga rK_I)⟩
theorem rs_rC_26 {nC nS : Int} : rS zt_rC (SHc nC nS 26) (SHc nC nS 26) := ⟨rfl, rfl, (rE_ga rK_I)⟩
theorem rs_rC_27 {nC nS : Int} : rS zt_rC (SHc nC nS 27) (SHc nC nS 27) := ⟨rfl, rfl, (rE_ga rK_I)⟩
theorem rs_rC_28 {nC nS : Int} : rS zt_rC (SHc nC nS 28) (SHc nC nS 28) := ⟨rfl, rfl, (rE_ga rK_I)⟩
theorem rs_rC_29 {nC nS : Int} : rS zt_rC (SHc nC nS 29) (SHc nC nS 29) := ⟨rfl, rfl, (rE_ga rK_I)⟩
theorem rs_rC_30 {nC nS : Int} : rS zt_rC (SHc nC nS 30) (SHc nC nS 30) := ⟨rfl, rfl, (rE_ga rK_I)⟩
theorem rs_rC_31 {nC nS : Int} : rS zt_rC (SHc nC nS 31) (SHc nC nS 31) := ⟨rfl, rfl, (rE_ga rK_I)⟩
theorem rs_rC_32 {nC nS : Int} : rS zt_rC (SHc nC nS 32) (SHc nC nS 32) := ⟨rfl, rfl, (rE_ga rK_I)⟩
theorem rs_rC_33 {nC nS : Int} : rS zt_rC (SHc nC nS 33) (SHc nC nS 33) := ⟨rfl, rfl, (rE_ga rK_I)⟩
theorem rs_rC_34 {nC nS : Int} : rS zt_rC (SHc nC nS 34) (SHc nC nS 34) := ⟨rfl, rfl, (rE_ga rK_I)⟩
theorem rs_rC_35 {nC nS : Int} : rS zt_rC (SHc nC nS 35) (SHc nC nS 35) := ⟨rfl, rfl, (rE_ga rK_I)⟩
theorem rs_rC_36 {nC nS : Int} : rS zt_rC (SHc nC nS 36) (SHc nC nS 36) := ⟨rfl, rfl, (rE_ga rK_I)⟩
theorem rs_rC_37 {nC nS : Int} : rS zt_rC (SHc nC nS 37) (SHc nC nS 37) := ⟨rfl, rfl, (rE_ga rK_I)⟩
theorem rs_rC_38 {nC nS : Int} : rS zt_rC (SHc nC nS 38) (SHc nC nS 38) := ⟨rfl, rfl, (rE_ga rK_I)⟩
theorem rs_rC_39 {nC nS : Int} : rS zt_rC (SHc nC nS 39) (SHc nC nS 39) := ⟨rfl, rfl, (rE_ga rK_I)⟩
theorem rs_rC_40 {nC nS : Int} : rS zt_rC (SHc nC nS 40) (SHc nC nS 141) := ⟨rfl, rfl, (rE_ga rK_I)⟩
theorem rs_rC_41 {nC nS : Int} : rS zt_rC (SHc nC nS 41) (SHc nC nS 142) := ⟨rfl, rfl, (rE_ga rK_I)⟩
theorem rs_rC_42 {nC nS : Int} : rS zt_rC (SHc nC nS 42) (SHc nC nS 143) := ⟨rfl, rfl, (rE_ga rK_I)⟩
theorem rs_rC_43 {nC nS : Int} : rS zt_rC (SHc nC nS 43) (SHc nC nS 144) := ⟨rfl, rfl, (rE_ga rK_I)⟩
theorem rs_rC_44 {nC nS : Int} : rS zt_rC (SHc nC nS 44) (SHc nC nS 145) := ⟨rfl, rfl, (rE_ga rK_I)⟩
theorem rs_rC_45 {nC nS : Int} : rS zt_rC (SHc nC nS 45) (SHc nC nS 146) := ⟨rfl, rfl, (rE_ga rK_I)⟩
theorem rs_rC_46 {nC nS : Int} : rS zt_rC (SHc nC nS 46) (SHc nC nS 147) := ⟨rfl, rfl, (rE_ga rK_I)⟩
theorem rs_rC_47 {nC nS : Int} : rS zt_rC (SHc nC nS 47) (SHc nC nS 148) := ⟨rfl, rfl, (rE_ga rK_I)⟩
theorem rs_rC_48 {nC nS : Int} : rS zt_rC (SHc nC nS 48) (SHc nC nS 149) := ⟨rfl, rfl, (rE_ga rK_I)⟩
theorem rs_rC_49 {nC nS : Int} : rS zt_rC (SHc nC nS 49) (SHc nC nS 150) := ⟨rfl, rfl, (rE_ga rK_I)⟩
theorem rs_rC_50 {nC nS : Int} : rS zt_rC (SHc nC nS 50) (SHc nC nS 151) := ⟨rfl, rfl, (rE_ga rK_J)⟩
theorem rs_rC_51 {nC nS : Int} : rS zt_rC (SHc nC nS 51) (SHc nC nS 51) := ⟨rfl, rfl, (rE_gnb (by decide))⟩
theorem rs_rC_52 {nC nS : Int} : rS zt_rC (SHc nC nS 52) (SHc nC nS 52) := ⟨rfl, rfl, (rE_ga rK_I)⟩
theorem rs_rC_53 {nC nS : Int} : rS zt_rC (SHc nC nS 53) (SHc nC nS 53) := ⟨rfl, rfl, (rE_ga rK_I)⟩
theorem rs_rC_54 {nC nS : Int} : rS zt_rC (SHc nC nS 54) (SHc nC nS 54) := ⟨rfl, rfl, (rE_ga rK_I)⟩
theorem rs_rC_55 {nC nS : Int} : rS zt_rC (SHc nC nS 55) (SHc nC nS 55) := ⟨rfl, rfl, (rE_ga rK_I)⟩
theorem rs_rC_56 {nC nS : Int} : rS zt_rC (SHc nC nS 56) (SHc nC nS 56) := ⟨rfl, rfl, (rE_ga rK_J)⟩
theorem rs_rC_57 {nC nS : Int} : rS zt_rC (SHc nC nS 57) (SHc nC nS 57) := ⟨rfl, rfl, (rE_ga rK_I)⟩
theorem rs_rC_58 {nC nS : Int} : rS zt_rC (SHc nC nS 58) (SHc nC nS 58) := ⟨rfl, rfl, (rE_ga rK_I)⟩
theorem rs_rC_59 {nC nS : Int} : rS zt_rC (SHc nC nS 59) (SHc nC nS 59) := ⟨rfl, rfl, (rE_ga rK_I)⟩
theorem rs_rC_60 {nC nS : Int} : rS zt_rC (SHc nC nS 60) (SHc nC nS 60) := ⟨rfl, rfl, (rE_ga rK_I)⟩
theorem rs_rC_61 {nC nS : Int} : rS zt_rC (SHc nC nS 61) (SHc nC nS 61) := ⟨rfl, rfl, (rE_ga rK_I)⟩
theorem rs_rC_62 {nC nS : Int} : rS zt_rC (SHc nC nS 62) (SHc nC nS 62) := ⟨rfl, rfl, (rE_ga rK_I)⟩
theorem rs_rC_63 {nC nS : Int} : rS zt_rC (SHc nC nS 63) (SHc nC nS 63) := ⟨rfl, rfl, (rE_ga rK_I)⟩
theorem rs_rC_64 {nC nS : Int} : rS zt_rC (SHc nC nS 64) (SHc nC nS 64) := ⟨rfl, rfl, (rE_ga rK_I)⟩
theorem rs_rC_65 {nC nS : Int} : rS zt_rC (SHc nC nS 65) (SHc nC nS 65) := ⟨rfl, rfl, (rE_ga rK_I)⟩
theorem rs_rC_66 {nC nS : Int} : rS zt_rC (SHc nC nS 66) (SHc nC nS 66) := ⟨rfl, rfl, (rE_ga rK_I)⟩
theorem rs_rC_67 {nC nS : Int} : rS zt_rC (SHc nC nS 67) (SHc nC nS 67) := ⟨rfl, rfl, (rE_ga rK_I)⟩
theorem rs_rC_68 {nC nS : Int} : rS zt_rC (SHc nC nS 68) (SHc nC nS 68) := ⟨rfl, rfl, (rE_ga rK_I)⟩
theorem rs_rC_69 {nC nS : Int} : rS zt_rC (SHc nC nS 69) (SHc nC nS 69) := ⟨rfl, rfl, (rE_ga rK_I)⟩
theorem rs_rC_70 {nC nS : Int} : rS zt_rC (SHc nC nS 70) (SHc nC nS 70) := ⟨rfl, rfl, (rE_ga (rK_R (by decide)))⟩
theorem rs_rC_71 {nC nS : Int} : rS zt_rC (SHc nC nS 71) (SHc nC nS 71) := ⟨rfl, rfl, (rE_ga rK_I)⟩
theorem rs_rC_72 {nC nS : Int} : rS zt_rC (SHc nC nS 72) (SHc nC nS 72) := ⟨rfl, rfl, (rE_ga rK_I)⟩
theorem rs_rC_73 {nC nS : Int} : rS zt_rC (SHc nC nS 73) (SHc nC nS 73) := ⟨rfl, rfl, (rE_ga rK_I)⟩
theorem rs_rC_74 {nC nS : Int} : rS zt_rC (SHc nC nS 74) (SHc nC nS 74) := ⟨rfl, rfl, (rE_ga rK_I)⟩
theorem rs_rC_75 {nC nS : Int} : rS zt_rC (SHc nC nS 75) (SHc nC nS 75) := ⟨rfl, rfl, (rE_ga rK_I)⟩
theorem rs_rC_76 {nC nS : Int} : rS zt_rC (SHc nC nS 76) (SHc nC nS 76) := ⟨rfl, rfl, (rE_ga rK_I)⟩
theorem rs_rC_77 {nC nS : Int} : rS zt_rC (SHc nC nS 77) (SHc nC nS 77) := ⟨rfl, rfl, (rE_ga rK_I)⟩
theorem rs_rC_78 {nC nS : Int} : rS zt_rC (SHc nC nS 78) (SHc nC nS 78) := ⟨rfl, rfl, (rE_ga rK_I)⟩
theorem rs_rC_79 {nC nS : Int} : rS zt_rC (SHc nC nS 79) (SHc nC nS 79) := ⟨rfl, rfl, (rE_ga rK_I)⟩
theorem rs_rC_80 {nC nS : Int} : rS zt_rC (SHc nC nS 80) (SHc nC nS 80) := ⟨rfl, rfl, (rE_ga rK_I)⟩
theorem rs_rC_81 {nC nS : Int} : rS zt_rC (SHc nC nS 81) (SHc nC nS 81) := ⟨rfl, rfl, (rE_ga rK_I)⟩
theorem rs_rC_82 {nC nS : Int} : rS zt_rC (SHc nC nS 82) (SHc nC nS 82) := ⟨rfl, rfl, (rE_ga rK_I)⟩
theorem rs_rC_83 {nC nS : Int} : rS zt_rC (SHc nC nS 83) (SHc nC nS 83) := ⟨rfl, rfl, (rE_ga rK_I)⟩
theorem rs_rC_84 {nC nS : Int} : rS zt_rC (SHc nC nS 84) (SHc nC nS 84) := ⟨rfl, rfl, (rE_ga rK_I)⟩
theorem rs_rC_85 {nC nS : Int} : rS zt_rC (SHc nC nS 85) (SHc nC nS 85) := ⟨rfl, rfl, (rE_ga rK_I)⟩
theorem rs_rC_86 {nC nS : Int} : rS zt_rC (SHc nC nS 86) (SHc nC nS 86) := ⟨rfl, rfl, (rE_ga rK_I)⟩
theorem rs_rC_87 {nC nS : Int} : rS zt_rC (SHc nC nS 87) (SHc nC nS 87) := ⟨rfl, rfl, (rE_ga rK_I)⟩
theorem rs_rC_88 {nC nS : Int} : rS zt_rC (SHc nC nS 88) (SHc nC nS 88) := ⟨rfl, rfl, (rE_ga rK_I)⟩
theorem rs_rC_89 {nC nS : Int} : rS zt_rC (SHc nC nS 89) (SHc nC nS 89) := ⟨rfl, rfl, (rE_ga rK_I)⟩
theorem rs_rC_90 {nC nS : Int} : rS zt_rC (SHc nC nS 90) (SHc nC nS 90) := ⟨rfl, rfl, (rE_cons (rK_R (by decide)) (rE_cons (rK_R (by decide)) (rE_cons (rK_R (by decide)) (rE_cons rK_I (rE_cons rK_I rE_nil)))))⟩
theorem rs_rC_91 {nC nS : Int} : rS zt_rC (SHc nC nS 91) (SHc nC nS 91) := ⟨rfl, rfl, (rE_cons (rK_R (by decide)) (rE_cons (rK_R (by decide)) (rE_cons (rK_R (by decide)) (rE_cons (rK_R (by decide)) (rE_cons (rK_R (by decide)) (rE_cons (rK_R (by decide)) (rE_cons rK_I rE_nil)))))))⟩
theorem rs_rC_92 {nC nS : Int} : rS zt_rC (SHc nC nS 92) (SHc nC nS 92) := ⟨rfl, rfl, (rE_cons (rK_R (by decide)) (rE_cons (rK_R (by decide)) (rE_cons rK_I rE_nil)))⟩
theorem rs_rC_93 {nC nS : Int} : rS zt_rC (SHc nC nS 93) (SHc nC nS 93) := ⟨rfl, rfl, (rE_cons (rK_R (by decide)) (rE_cons (rK_R (by decide)) (rE_cons (rK_R (by decide)) (rE_cons (rK_R (by decide)) (rE_cons (rK_R (by decide)) (rE_cons (rK_R (by decide)) (rE_cons (rK_R (by decide)) (rE_cons (rK_R (by decide)) (rE_cons (rK_R (by decide)) (rE_cons (rK_R (by decide)) (rE_cons (rK_R (by decide)) (rE_cons rK_I (rE_cons rK_I (rE_cons rK_I (rE_cons rK_I rE_nil)))))))))))))))⟩
theorem rs_rC_94 {nC nS : Int} : rS zt_rC (SHc nC nS 94) (SHc nC nS 94) := ⟨rfl, rfl, (rE_cons (rK_R (by decide)) (rE_cons (rK_R (by decide)) (rE_cons rK_I (rE_cons rK_I (rE_cons rK_I (rE_cons rK_I (rE_cons rK_I (rE_cons rK_I (rE_cons rK_I (rE_cons rK_I (rE_cons rK_I (rE_cons rK_I rE_nil))))))))))))⟩
theorem rs_rC_98 {nC nS : Int} : rS zt_rC (SHc nC nS 98) (SHc nC nS 98) := ⟨rfl, rfl, (rE_ga rK_J)⟩
theorem rs_rC_140 {nC nS : Int} : rS zt_rC (SHc nC nS 140) (SHc nC nS 7) := ⟨rfl, rfl, (rE_cons (rK_R (by decide)) (rE_cons (rK_R (by decide)) (rE_cons (rK_R (by decide)) (rE_cons (rK_R (by decide)) (rE_cons (rK_R (by decide)) (rE_cons (rK_R (by decide)) (rE_cons (rK_R (by decide)) (rE_cons (rK_R (by decide)) (rE_cons (rK_R (by decide)) (rE_cons (rK_R (by decide)) (rE_cons (rK_R (by decide)) (rE_cons rK_I (rE_cons rK_I (rE_cons rK_I rE_nil))))))))))))))⟩
theorem rs_rC_141 {nC nS : Int} : rS zt_rC (SHc nC nS 141) (SHc nC nS 40) := ⟨rfl, rfl, (rE_ga rK_I)⟩
theorem rs_rC_142 {nC nS : Int} : rS zt_rC (SHc nC nS 142) (SHc nC nS 41) := ⟨rfl, rfl, (rE_ga rK_I)⟩
theorem rs_rC_143 {nC nS : Int} : rS zt_rC (SHc nC nS 143) (SHc nC nS 42) := ⟨rfl, rfl, (rE_ga rK_I)⟩
theorem rs_rC_144 {nC nS : Int} : rS zt_rC (SHc nC nS 144) (SHc nC nS 43) := ⟨rfl, rfl, (rE_ga rK_I)⟩
theorem rs_rC_145 {nC nS : Int} : rS zt_rC (SHc nC nS 145) (SHc nC nS 44) := ⟨rfl, rfl, (rE_ga rK_I)⟩
theorem rs_rC_146 {nC nS : Int} : rS zt_rC (SHc nC nS 146) (SHc nC nS 45) := ⟨rfl, rfl, (rE_ga rK_I)⟩
theorem rs_rC_147 {nC nS : Int} : rS zt_rC (SHc nC nS 147) (SHc nC nS 46) := ⟨rfl, rfl, (rE_ga rK_I)⟩
theorem rs_rC_148 {nC nS : Int} : rS zt_rC (SHc nC nS 148) (SHc nC nS 47) := ⟨rfl, rfl, (rE_ga rK_I)⟩
theorem rs_rC_149 {nC nS : Int} : rS zt_rC (SHc nC nS 149) (SHc nC nS 48) := ⟨rfl, rfl, (rE_ga rK_I)⟩
theorem rs_rC_150 {nC nS : Int} : rS zt_rC (SHc nC nS 150) (SHc nC nS 49) := ⟨rfl, rfl, (rE_ga rK_I)⟩
theorem rs_rC_151 {nC nS : Int} : rS zt_rC (SHc nC nS 151) (SHc nC nS 50) := ⟨rfl, rfl, (rE_ga rK_J)⟩
theorem rs_rC_152 {nC nS : Int} : rS zt_rC (SHc nC nS 152) (SHc nC nS 152) := ⟨rfl, rfl, (rE_cons (rK_R (by decide)) (rE_cons (rK_R (by decide)) (rE_cons (rK_R (by decide)) (rE_cons (rK_R (by decide)) (rE_cons (rK_R (by decide)) (rE_cons (rK_R (by decide)) (rE_cons (rK_R (by decide)) (rE_cons (rK_R (by decide)) (rE_cons (rK_R (by decide)) (rE_cons (rK_R (by decide)) (rE_cons (rK_R (by decide)) (rE_cons rK_I (rE_cons rK_I (rE_cons rK_I rE_nil))))))))))))))⟩
theorem rs_rC_153 {nC nS : Int} : rS zt_rC (SHc nC nS 153) (SHc nC nS 153) := ⟨rfl, rfl, (rE_ga rK_I)⟩
theorem rs_rC_154 {nC nS : Int} : rS zt_rC (SHc nC nS 154) (SHc nC nS 154) := ⟨rfl, rfl, (rE_ga rK_I)⟩
theorem rs_rC_155 {nC nS : Int} : rS zt_rC (SHc nC nS 155) (SHc nC nS 155) := ⟨rfl, rfl, (rE_ga rK_I)⟩
theorem rs_rC_156 {nC nS : Int} : rS zt_rC (SHc nC nS 156) (SHc nC nS 156) := ⟨rfl, rfl, (rE_ga rK_I)⟩
theorem rs_rC_157 {nC nS : Int} : rS zt_rC (SHc nC nS 157) (SHc nC nS 157) := ⟨rfl, rfl, (rE_ga rK_I)⟩
theorem rs_rC_158 {nC nS : Int} : rS zt_rC (SHc nC nS 158) (SHc nC nS 158) := ⟨rfl, rfl, (rE_ga rK_I)⟩
theorem rs_rC_159 {nC nS : Int} : rS zt_rC (SHc nC nS 159) (SHc nC nS 159) := ⟨rfl, rfl, (rE_ga rK_I)⟩
theorem rs_rC_160 {nC nS : Int} : rS zt_rC (SHc nC nS 160) (SHc nC nS 160) := ⟨rfl, rfl, (rE_ga rK_I)⟩
theorem rs_rC_161 {nC nS : Int} : rS zt_rC (SHc nC nS 161) (SHc nC nS 161) := ⟨rfl, rfl, (rE_ga rK_I)⟩
theorem rs_rC_162 {nC nS : Int} : rS zt_rC (SHc nC nS 162) (SHc nC nS 162) := ⟨rfl, rfl, (rE_ga rK_I)⟩
theorem rs_rC_163 {nC nS : Int} : rS zt_rC (SHc nC nS 163) (SHc nC nS 163) := ⟨rfl, rfl, (rE_ga rK_J)⟩
