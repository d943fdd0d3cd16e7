theorem lw_in (ws : List Cond) (ps : List Nat) (h : ws = ps.filterMap (fun i => lw_tbl[i]?)) : ∀ w ∈ ws, w ∈ lw_tbl := by
  intro w hw
  rw [h] at hw
  obtain ⟨i, -, hi⟩ := List.mem_filterMap.mp hw
  exact List.mem_of_getElem? hi
set_option maxRecDepth 100000 in
theorem bt_J0 : ∀ w ∈ u_ws RJ0 TJ0 2, w ∈ lw_tbl := lw_in _ [887, 889] (by decide +kernel)
set_option maxRecDepth 100000 in
theorem bt_Jx00060 : ∀ w ∈ u_ws RJx00060 TJx00060 6, w ∈ lw_tbl := lw_in _ [853, 855, 857, 859, 861, 863] (by decide +kernel)
set_option maxRecDepth 100000 in
theorem bt_Jx3273f : ∀ w ∈ u_ws RJx3273f TJx3273f 6, w ∈ lw_tbl := lw_in _ [1118, 1119, 1120, 1121, 1122, 1123] (by decide +kernel)
set_option maxRecDepth 100000 in
theorem bt_X0 : ∀ w ∈ wsX00, w ∈ lw_tbl := lw_in _ [488, 490, 492, 494, 496, 498, 500, 502, 504, 506, 508, 510, 512, 514, 516, 518, 520, 522] (by decide +kernel)
set_option maxRecDepth 100000 in
theorem bt_X1 : ∀ w ∈ wsX10, w ∈ lw_tbl := lw_in _ [1788, 1790, 1792, 1794, 1796, 1798, 1800, 1802] (by decide +kernel)
set_option maxRecDepth 100000 in
theorem bt_X2 : ∀ w ∈ wsX20, w ∈ lw_tbl := lw_in _ [250, 252, 254, 256, 258, 260, 262, 264, 266, 268, 270, 272, 274, 276, 278] (by decide +kernel)
set_option maxRecDepth 100000 in
theorem bt_X3 : ∀ w ∈ wsX30, w ∈ lw_tbl := lw_in _ [361, 363, 365, 367, 369] (by decide +kernel)
set_option maxRecDepth 100000 in
theorem bt_X4 : ∀ w ∈ wsX40, w ∈ lw_tbl := lw_in _ [423, 425, 427, 429, 431, 433, 435, 437, 439, 441, 443, 445, 447, 449] (by decide +kernel)
set_option maxRecDepth 100000 in
theorem bt_X5 : ∀ w ∈ wsX50, w ∈ lw_tbl := lw_in _ [553, 555, 557, 559, 561, 563, 565, 567, 569, 571, 573, 575, 577, 579, 581, 583, 585] (by decide +kernel)
set_option maxRecDepth 100000 in
theorem bt_X6 : ∀ w ∈ wsX60, w ∈ lw_tbl := lw_in _ [384, 386, 388, 390] (by decide +kernel)
set_option maxRecDepth 100000 in
theorem bt_X7 : ∀ w ∈ wsX70, w ∈ lw_tbl := lw_in _ [1647, 1649, 1651, 1653, 1655, 1657, 1659, 1661, 1663, 1665, 1667, 1669] (by decide +kernel)
set_option maxRecDepth 100000 in
theorem bt_X8 : ∀ w ∈ wsX80, w ∈ lw_tbl := lw_in _ [193, 195, 197, 199, 201, 203, 205] (by decide +kernel)
set_option maxRecDepth 100000 in
theorem bt_X9 : ∀ w ∈ wsX90, w ∈ lw_tbl := lw_in _ [174, 176, 178] (by decide +kernel)
set_option maxRecDepth 100000 in
theorem bt_X10 : ∀ w ∈ wsX100, w ∈ lw_tbl := lw_in _ [318, 320, 322, 324, 326, 328, 330, 332, 334, 336, 338, 340] (by decide +kernel)
set_option maxRecDepth 100000 in
theorem bt_X11 : ∀ w ∈ wsX110, w ∈ lw_tbl := lw_in _ [597, 599, 601, 603, 605, 607, 609, 611, 613] (by decide +kernel)
set_option maxRecDepth 100000 in
theorem bt_X12 : ∀ w ∈ wsX120, w ∈ lw_tbl := lw_in _ (2047 :: 2049 :: 2051 :: 2053 :: 2055 :: 2057 :: 2059 :: 2061 :: 2063 :: 2065 :: 2067 :: 2069 :: 2071 :: 2073 :: 2075 :: 2077 :: 2079 :: 2081 :: 2083 :: 2085 :: 2087 :: 2089 :: 2091 :: 2093 :: 2095 :: 2097 :: 2099 :: 2101 :: 2103 :: 2105 :: 2107 :: 2109 :: 2111 :: 2113 :: 2115 :: 2117 :: 2119 :: 2121 :: 2123 :: 2125 :: 2127 :: 2129 :: 2131 :: 2133 :: 2135 :: 2137 :: 2139 :: 2141 :: 2143 :: 2145 :: 2147 :: 2149 :: 2151 :: 2153 :: 2155 :: 2157 :: 2159 :: 2161 :: 2163 :: 2165 :: 2167 :: 2169 :: 2171 :: 2173 :: 2175 :: 2177 :: 2179 :: 2181 :: 2183 :: 2185 :: 2187 :: 2189 :: 2191 :: 2193 :: 2195 :: 2197 :: 2199 :: 2201 :: []) (by decide +kernel)
set_option maxRecDepth 100000 in
theorem bt_x0 : ∀ w ∈ bsX0, w ∈ lw_tbl := by decide +kernel
set_option maxRecDepth 100000 in
theorem bt_y1 : ∀ w ∈ bsX1.filter (fun w => decide (¬ w ∈ bsX0)), w ∈ lw_tbl := by decide +kernel
theorem bt_x1 : ∀ w ∈ bsX1, w ∈ lw_tbl := fun w h => (Classical.em (w ∈ bsX0)).elim (fun hz => bt_x0 w hz) (fun hz => bt_y1 w (List.mem_filter.mpr ⟨h, decide_eq_true hz⟩))
set_option maxRecDepth 100000 in
theorem bt_y2 : ∀ w ∈ bsX2.filter (fun w => decide (¬ w ∈ bsX0)), w ∈ lw_tbl := by decide +kernel
theorem bt_x2 : ∀ w ∈ bsX2, w ∈ lw_tbl := fun w h => (Classical.em (w ∈ bsX0)).elim (fun hz => bt_x0 w hz) (fun hz => bt_y2 w (List.mem_filter.mpr ⟨h, decide_eq_true hz⟩))
set_option maxRecDepth 100000 in
theorem bt_y3 : ∀ w ∈ bsX3.filter (fun w => decide (¬ w ∈ bsX0)), w ∈ lw_tbl := by decide +kernel
theorem bt_x3 : ∀ w ∈ bsX3, w ∈ lw_tbl := fun w h => (Classical.em (w ∈ bsX0)).elim (fun hz => bt_x0 w hz) (fun hz => bt_y3 w (List.mem_filter.mpr ⟨h, decide_eq_true hz⟩))
set_option maxRecDepth 100000 in
theorem bt_y4 : ∀ w ∈ bsX4.filter (fun w => decide (¬ w ∈ bsX0)), w ∈ lw_tbl := by decide +kernel
theorem bt_x4 : ∀ w ∈ bsX4, w ∈ lw_tbl := fun w h => (Classical.em (w ∈ bsX0)).elim (fun hz => bt_x0 w hz) (fun hz => bt_y4 w (List.mem_filter.mpr ⟨h, decide_eq_true hz⟩))
set_option maxRecDepth 100000 in
theorem bt_y5 : ∀ w ∈ bsX5.filter (fun w => decide (¬ w ∈ bsX0)), w ∈ lw_tbl := by decide +kernel
theorem bt_x5 : ∀ w ∈ bsX5, w ∈ lw_tbl := fun w h => (Classical.em (w ∈ bsX0)).elim (fun hz => bt_x0 w hz) (fun hz => bt_y5 w (List.mem_filter.mpr ⟨h, decide_eq_true hz⟩))
theorem bsF_tbl : ∀ w ∈ bsF, w ∈ lw_tbl := List.forall_mem_append.mpr ⟨bt_X0, List.forall_mem_append.mpr ⟨bt_X2, List.forall_mem_append.mpr ⟨bt_X3, List.forall_mem_append.mpr ⟨bt_X4, List.forall_mem_append.mpr ⟨bt_X5, List.forall_mem_append.mpr ⟨bt_X6, List.forall_mem_append.mpr ⟨bt_X7, List.forall_mem_append.mpr ⟨bt_X8, List.forall_mem_append.mpr ⟨bt_X9, List.forall_mem_append.mpr ⟨bt_X10, List.forall_mem_append.mpr ⟨bt_X11, bt_X12⟩⟩⟩⟩⟩⟩⟩⟩⟩⟩⟩
theorem bsX_tbl : ∀ w ∈ bsX, w ∈ lw_tbl := List.forall_mem_append.mpr ⟨bt_x0, List.forall_mem_append.mpr ⟨bt_x1, List.forall_mem_append.mpr ⟨bt_x2, bt_x3⟩⟩⟩
theorem bs_tbl : ∀ w ∈ bs, w ∈ lw_tbl := List.forall_mem_append.mpr ⟨bsF_tbl, bsX_tbl⟩
theorem bs2_tbl : ∀ w ∈ bs2, w ∈ lw_tbl := List.forall_mem_append.mpr ⟨bs_tbl, List.forall_mem_append.mpr ⟨bt_x4, List.forall_mem_append.mpr ⟨bt_x5, bt_X1⟩⟩⟩
theorem lw_ins2 {c : Cond} {l : List Cond} (hc : c ∈ lw_tbl) (h : ∀ w ∈ l, w ∈ lw_tbl) : ∀ w ∈ c :: (l ++ bs2), w ∈ lw_tbl := List.forall_mem_cons.mpr ⟨hc, List.forall_mem_append.mpr ⟨h, bs2_tbl⟩⟩
set_option maxRecDepth 100000 in
theorem nwT_tbl : ∀ w ∈ nwT, w ∈ lw_tbl := lw_in _ (360 :: 349 :: 217 :: 346 :: 183 :: 192 :: 190 :: 188 :: 173 :: 307 :: 294 :: 312 :: 309 :: 297 :: 315 :: 317 :: 222 :: 225 :: 227 :: 230 :: 233 :: 235 :: 238 :: 460 :: 473 :: 475 :: 483 :: 477 :: 470 :: 467 :: 481 :: 463 :: 1639 :: 1645 :: 1636 :: 1641 :: 1643 :: 487 :: 1787 :: 1786 :: 1784 :: 1780 :: 1778 :: 1776 :: 356 :: 353 :: 305 :: 550 :: 552 :: 545 :: 379 :: 243 :: 245 :: 247 :: 249 :: 382 :: 420 :: 485 :: 457 :: 419 :: 1646 :: 1638 :: 1640 :: 1623 :: 1625 :: 1635 :: 1627 :: 1629 :: 1631 :: 1642 :: 218 :: 224 :: 232 :: 350 :: 1633 :: 1644 :: 237 :: 215 :: 296 :: 293 :: 221 :: 304 :: 302 :: 299 :: 229 :: 313 :: 310 :: 358 :: 354 :: 352 :: 292 :: 301 :: 345 :: 459 :: 462 :: 220 :: 344 :: 359 :: 348 :: 216 :: 171 :: 169 :: 374 :: 529 :: 403 :: 1687 :: 158 :: 210 :: 285 :: 678 :: 1599 :: 1909 :: 164 :: []) (by decide +kernel)
set_option maxRecDepth 100000 in
theorem strT_tbl : ∀ w ∈ strT.map (fun q => Cond.stringRef RX11 q.1 q.2), w ∈ lw_tbl := lw_in _ [944, 1025, 1206, 1355, 1518, 1530, 1578, 1586, 1615, 1752, 1817, 928, 1141, 912, 1703, 1954, 1082, 1551, 1135, 1546, 1816] (by decide +kernel)
def flG : List Cond := flatC (Jvm.Cond.and given_1 narrow_1)
theorem fl_in (ws : List Cond) (ps : List Nat) (h : ws = ps.filterMap (fun i => flG[i]?)) : ∀ w ∈ ws, w ∈ flG := by
  intro w hw
  rw [h] at hw
  obtain ⟨i, -, hi⟩ := List.mem_filterMap.mp hw
  exact List.mem_of_getElem? hi
set_option maxRecDepth 100000 in
theorem strT_fl : ∀ q ∈ strT, Cond.exactly (.string RX11 q.1) "java/lang/String" ∈ flG := by decide +kernel
theorem exT_tbl : ∀ w ∈ exT.map (fun E => Cond.castable E E), w ∈ lw_tbl := lw_in _ [905, 921, 1018, 937] (by decide +kernel)
theorem exT2_tbl : ∀ w ∈ exT2.map (fun E => Cond.castable E E), w ∈ lw_tbl := lw_in _ [1075, 1125] (by decide +kernel)
theorem dcT_tbl : ∀ w ∈ dcT.map (fun y => Cond.declares (Bundle.initS y)), w ∈ lw_tbl := lw_in _ [870, 872, 874] (by decide +kernel)
set_option maxRecDepth 100000 in
theorem ncT_fl : ∀ q ∈ ncT, Cond.not (.castable q.1 q.2) ∈ flG := by decide +kernel
theorem aoT_tbl : ∀ w ∈ aoT.map (fun C => Cond.arrayOver (.object C)), w ∈ lw_tbl := lw_in _ [400, 526, 283] (by decide +kernel)
theorem zT_tbl : ∀ w ∈ [Cond.laysStatic Bundle.tN "UNASSIGNED_STACK" Bundle.steD, Cond.laysStatic Bundle.tN "SUPPRESSED_SENTINEL" Bundle.listD, Cond.initialized Bundle.tN], w ∈ lw_tbl := lw_in _ [829, 831, 123] (by decide +kernel)
theorem zT2_tbl : ∀ w ∈ [Cond.laysStatic "java/lang/String" "COMPACT_STRINGS" "Z", Cond.initialized "java/lang/String", Cond.laysStatic "jdk/internal/util/Preconditions" "SIOOBE_FORMATTER" "Ljava/util/function/BiFunction;", Cond.initialized "jdk/internal/util/Preconditions"], w ∈ lw_tbl := lw_in _ [1403, 128, 1419, 136] (by decide +kernel)
set_option maxRecDepth 100000 in
theorem zT_fl : ∀ w ∈ [Cond.isRef (.static Bundle.tN "UNASSIGNED_STACK" Bundle.steD), Cond.isRef (.static Bundle.tN "SUPPRESSED_SENTINEL" Bundle.listD), Cond.eq (.static "java/lang/String" "COMPACT_STRINGS" "Z") (.int 1), Cond.isRef (.static "jdk/internal/util/Preconditions" "SIOOBE_FORMATTER" "Ljava/util/function/BiFunction;")], w ∈ flG := by decide +kernel
