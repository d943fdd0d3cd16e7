def tmS (i : Nat) : Term := .string (strW.getD i (RX12, 0, "", 0)).1 (strW.getD i (RX12, 0, "", 0)).2.1
def sB : List (List Int32) := [[97, 99, 114, 101, 115], [103, 97, 105, 110], [97, 103, 101], [115, 111, 110, 115], [99, 111, 105, 110], [99, 97, 116, 116, 108, 101], [107, 105, 110], [98, 111, 97, 114, 100], [110, 101, 97, 114], [111, 119, 101, 115], [110, 111, 116], [97, 110, 100], [111, 114], [105, 110], [100, 117, 101, 115], [118, 111, 116, 101, 115], [102, 105, 110, 101], [109, 97, 114, 107], [99, 97, 108, 108], [111, 117, 116], [108, 101, 118, 101, 108], [112, 97, 115, 115], [98, 97, 114], [105, 102], [105, 102], [105, 110], [110, 111, 116], [97, 110, 100], [111, 114], [97, 99, 114, 101, 115], [103, 97, 105, 110], [97, 103, 101], [115, 111, 110, 115], [99, 111, 105, 110], [99, 97, 116, 116, 108, 101], [107, 105, 110], [98, 111, 97, 114, 100], [110, 101, 97, 114], [111, 119, 101, 115], [100, 117, 101, 115], [118, 111, 116, 101, 115], [102, 105, 110, 101], [109, 97, 114, 107], [99, 97, 108, 108], [111, 117, 116], [108, 101, 118, 101, 108], [112, 97, 115, 115], [98, 97, 114]]
def svw (i : Nat) : List Cond := Cond.exactly (tmS i) "java/lang/String" :: Cond.eq (.field (tmS i) "java/lang/String" "coder" "B") (.int 0) :: Cond.arrayOf (.field (tmS i) "java/lang/String" "value" "[B") .byte :: Cond.eq (.length (.field (tmS i) "java/lang/String" "value" "[B")) (.int (Int32.ofNat (sLn i))) :: (List.range (sLn i)).map (fun j => Cond.eq (.elem (.field (tmS i) "java/lang/String" "value" "[B") (.int (Int32.ofNat j))) (.int ((sB.getD i []).getD j 0)))
set_option maxRecDepth 100000 in
theorem sv_0 : ∀ w ∈ svw 0, w ∈ flG := fl_in _ [917, 918, 919, 920, 921, 922, 923, 924, 925] (by decide +kernel)
set_option maxRecDepth 100000 in
theorem sv_1 : ∀ w ∈ svw 1, w ∈ flG := fl_in _ [814, 815, 816, 817, 818, 819, 820, 821] (by decide +kernel)
set_option maxRecDepth 100000 in
theorem sv_2 : ∀ w ∈ svw 2, w ∈ flG := fl_in _ [927, 928, 929, 930, 931, 932, 933] (by decide +kernel)
set_option maxRecDepth 100000 in
theorem sv_3 : ∀ w ∈ svw 3, w ∈ flG := fl_in _ [935, 936, 937, 938, 939, 940, 941, 942] (by decide +kernel)
set_option maxRecDepth 100000 in
theorem sv_4 : ∀ w ∈ svw 4, w ∈ flG := fl_in _ [944, 945, 946, 947, 948, 949, 950, 951] (by decide +kernel)
set_option maxRecDepth 100000 in
theorem sv_5 : ∀ w ∈ svw 5, w ∈ flG := fl_in _ [953, 954, 955, 956, 957, 958, 959, 960, 961, 962] (by decide +kernel)
set_option maxRecDepth 100000 in
theorem sv_6 : ∀ w ∈ svw 6, w ∈ flG := fl_in _ [964, 965, 966, 967, 968, 969, 970] (by decide +kernel)
set_option maxRecDepth 100000 in
theorem sv_7 : ∀ w ∈ svw 7, w ∈ flG := fl_in _ [972, 973, 974, 975, 976, 977, 978, 979, 980] (by decide +kernel)
set_option maxRecDepth 100000 in
theorem sv_8 : ∀ w ∈ svw 8, w ∈ flG := fl_in _ [982, 983, 984, 985, 986, 987, 988, 989] (by decide +kernel)
set_option maxRecDepth 100000 in
theorem sv_9 : ∀ w ∈ svw 9, w ∈ flG := fl_in _ [991, 992, 993, 994, 995, 996, 997, 998] (by decide +kernel)
set_option maxRecDepth 100000 in
theorem sv_10 : ∀ w ∈ svw 10, w ∈ flG := fl_in _ [909, 910, 911, 912, 913, 914, 915] (by decide +kernel)
set_option maxRecDepth 100000 in
theorem sv_11 : ∀ w ∈ svw 11, w ∈ flG := fl_in _ [1000, 1001, 1002, 1003, 1004, 1005, 1006] (by decide +kernel)
set_option maxRecDepth 100000 in
theorem sv_12 : ∀ w ∈ svw 12, w ∈ flG := fl_in _ [1008, 1009, 1010, 1011, 1012, 1013] (by decide +kernel)
set_option maxRecDepth 100000 in
theorem sv_13 : ∀ w ∈ svw 13, w ∈ flG := fl_in _ [895, 896, 897, 898, 899, 900] (by decide +kernel)
set_option maxRecDepth 100000 in
theorem sv_14 : ∀ w ∈ svw 14, w ∈ flG := fl_in _ [805, 806, 807, 808, 809, 810, 811, 812] (by decide +kernel)
set_option maxRecDepth 100000 in
theorem sv_15 : ∀ w ∈ svw 15, w ∈ flG := fl_in _ [823, 824, 825, 826, 827, 828, 829, 830, 831] (by decide +kernel)
set_option maxRecDepth 100000 in
theorem sv_16 : ∀ w ∈ svw 16, w ∈ flG := fl_in _ [833, 834, 835, 836, 837, 838, 839, 840] (by decide +kernel)
set_option maxRecDepth 100000 in
theorem sv_17 : ∀ w ∈ svw 17, w ∈ flG := fl_in _ [842, 843, 844, 845, 846, 847, 848, 849] (by decide +kernel)
set_option maxRecDepth 100000 in
theorem sv_18 : ∀ w ∈ svw 18, w ∈ flG := fl_in _ [851, 852, 853, 854, 855, 856, 857, 858] (by decide +kernel)
set_option maxRecDepth 100000 in
theorem sv_19 : ∀ w ∈ svw 19, w ∈ flG := fl_in _ [860, 861, 862, 863, 864, 865, 866] (by decide +kernel)
set_option maxRecDepth 100000 in
theorem sv_20 : ∀ w ∈ svw 20, w ∈ flG := fl_in _ [868, 869, 870, 871, 872, 873, 874, 875, 876] (by decide +kernel)
set_option maxRecDepth 100000 in
theorem sv_21 : ∀ w ∈ svw 21, w ∈ flG := fl_in _ [878, 879, 880, 881, 882, 883, 884, 885] (by decide +kernel)
set_option maxRecDepth 100000 in
theorem sv_22 : ∀ w ∈ svw 22, w ∈ flG := fl_in _ [887, 888, 889, 890, 891, 892, 893] (by decide +kernel)
set_option maxRecDepth 100000 in
theorem sv_23 : ∀ w ∈ svw 23, w ∈ flG := fl_in _ [902, 903, 904, 905, 906, 907] (by decide +kernel)
set_option maxRecDepth 100000 in
theorem sv_24 : ∀ w ∈ svw 24, w ∈ flG := fl_in _ [524, 525, 526, 527, 528, 529] (by decide +kernel)
set_option maxRecDepth 100000 in
theorem sv_25 : ∀ w ∈ svw 25, w ∈ flG := fl_in _ [530, 531, 532, 533, 534, 535] (by decide +kernel)
set_option maxRecDepth 100000 in
theorem sv_26 : ∀ w ∈ svw 26, w ∈ flG := fl_in _ [536, 537, 538, 539, 540, 541, 542] (by decide +kernel)
set_option maxRecDepth 100000 in
theorem sv_27 : ∀ w ∈ svw 27, w ∈ flG := fl_in _ [543, 544, 545, 546, 547, 548, 549] (by decide +kernel)
set_option maxRecDepth 100000 in
theorem sv_28 : ∀ w ∈ svw 28, w ∈ flG := fl_in _ [550, 551, 552, 553, 554, 555] (by decide +kernel)
set_option maxRecDepth 100000 in
theorem sv_29 : ∀ w ∈ svw 29, w ∈ flG := fl_in _ [370, 371, 372, 373, 374, 375, 376, 377, 378] (by decide +kernel)
set_option maxRecDepth 100000 in
theorem sv_30 : ∀ w ∈ svw 30, w ∈ flG := fl_in _ [379, 380, 381, 382, 383, 384, 385, 386] (by decide +kernel)
set_option maxRecDepth 100000 in
theorem sv_31 : ∀ w ∈ svw 31, w ∈ flG := fl_in _ [387, 388, 389, 390, 391, 392, 393] (by decide +kernel)
set_option maxRecDepth 100000 in
theorem sv_32 : ∀ w ∈ svw 32, w ∈ flG := fl_in _ [394, 395, 396, 397, 398, 399, 400, 401] (by decide +kernel)
set_option maxRecDepth 100000 in
theorem sv_33 : ∀ w ∈ svw 33, w ∈ flG := fl_in _ [402, 403, 404, 405, 406, 407, 408, 409] (by decide +kernel)
set_option maxRecDepth 100000 in
theorem sv_34 : ∀ w ∈ svw 34, w ∈ flG := fl_in _ [410, 411, 412, 413, 414, 415, 416, 417, 418, 419] (by decide +kernel)
set_option maxRecDepth 100000 in
theorem sv_35 : ∀ w ∈ svw 35, w ∈ flG := fl_in _ [420, 421, 422, 423, 424, 425, 426] (by decide +kernel)
set_option maxRecDepth 100000 in
theorem sv_36 : ∀ w ∈ svw 36, w ∈ flG := fl_in _ [427, 428, 429, 430, 431, 432, 433, 434, 435] (by decide +kernel)
set_option maxRecDepth 100000 in
theorem sv_37 : ∀ w ∈ svw 37, w ∈ flG := fl_in _ [436, 437, 438, 439, 440, 441, 442, 443] (by decide +kernel)
set_option maxRecDepth 100000 in
theorem sv_38 : ∀ w ∈ svw 38, w ∈ flG := fl_in _ [444, 445, 446, 447, 448, 449, 450, 451] (by decide +kernel)
set_option maxRecDepth 100000 in
theorem sv_39 : ∀ w ∈ svw 39, w ∈ flG := fl_in _ [452, 453, 454, 455, 456, 457, 458, 459] (by decide +kernel)
set_option maxRecDepth 100000 in
theorem sv_40 : ∀ w ∈ svw 40, w ∈ flG := fl_in _ [460, 461, 462, 463, 464, 465, 466, 467, 468] (by decide +kernel)
set_option maxRecDepth 100000 in
theorem sv_41 : ∀ w ∈ svw 41, w ∈ flG := fl_in _ [469, 470, 471, 472, 473, 474, 475, 476] (by decide +kernel)
set_option maxRecDepth 100000 in
theorem sv_42 : ∀ w ∈ svw 42, w ∈ flG := fl_in _ [477, 478, 479, 480, 481, 482, 483, 484] (by decide +kernel)
set_option maxRecDepth 100000 in
theorem sv_43 : ∀ w ∈ svw 43, w ∈ flG := fl_in _ [485, 486, 487, 488, 489, 490, 491, 492] (by decide +kernel)
set_option maxRecDepth 100000 in
theorem sv_44 : ∀ w ∈ svw 44, w ∈ flG := fl_in _ [493, 494, 495, 496, 497, 498, 499] (by decide +kernel)
set_option maxRecDepth 100000 in
theorem sv_45 : ∀ w ∈ svw 45, w ∈ flG := fl_in _ [500, 501, 502, 503, 504, 505, 506, 507, 508] (by decide +kernel)
set_option maxRecDepth 100000 in
theorem sv_46 : ∀ w ∈ svw 46, w ∈ flG := fl_in _ [509, 510, 511, 512, 513, 514, 515, 516] (by decide +kernel)
set_option maxRecDepth 100000 in
theorem sv_47 : ∀ w ∈ svw 47, w ∈ flG := fl_in _ [517, 518, 519, 520, 521, 522, 523] (by decide +kernel)
theorem sv_all : ∀ i, i < 48 → ∀ w ∈ svw i, w ∈ flG := fun i hi => match i, hi with
  | 0, _ => sv_0
  | 1, _ => sv_1
  | 2, _ => sv_2
  | 3, _ => sv_3
  | 4, _ => sv_4
  | 5, _ => sv_5
  | 6, _ => sv_6
  | 7, _ => sv_7
  | 8, _ => sv_8
  | 9, _ => sv_9
  | 10, _ => sv_10
  | 11, _ => sv_11
  | 12, _ => sv_12
  | 13, _ => sv_13
  | 14, _ => sv_14
  | 15, _ => sv_15
  | 16, _ => sv_16
  | 17, _ => sv_17
  | 18, _ => sv_18
  | 19, _ => sv_19
  | 20, _ => sv_20
  | 21, _ => sv_21
  | 22, _ => sv_22
  | 23, _ => sv_23
  | 24, _ => sv_24
  | 25, _ => sv_25
  | 26, _ => sv_26
  | 27, _ => sv_27
  | 28, _ => sv_28
  | 29, _ => sv_29
  | 30, _ => sv_30
  | 31, _ => sv_31
  | 32, _ => sv_32
  | 33, _ => sv_33
  | 34, _ => sv_34
  | 35, _ => sv_35
  | 36, _ => sv_36
  | 37, _ => sv_37
  | 38, _ => sv_38
  | 39, _ => sv_39
  | 40, _ => sv_40
  | 41, _ => sv_41
  | 42, _ => sv_42
  | 43, _ => sv_43
  | 44, _ => sv_44
  | 45, _ => sv_45
  | 46, _ => sv_46
  | 47, _ => sv_47
  | i + 48, hi => absurd hi (by omega)
set_option maxRecDepth 100000 in
theorem strW_tbl : ∀ w ∈ strW.map (fun w => Cond.stringRef w.1 w.2.1 w.2.2.1), w ∈ lw_tbl := lw_in _ (2542 :: 2486 :: 2543 :: 2544 :: 2545 :: 2546 :: 2547 :: 2548 :: 2549 :: 2550 :: 2526 :: 2551 :: 2552 :: 2503 :: 2479 :: 2487 :: 2488 :: 2489 :: 2490 :: 2491 :: 2492 :: 2493 :: 2494 :: 2505 :: 1463 :: 1464 :: 1465 :: 1466 :: 1467 :: 1390 :: 1442 :: 1443 :: 1444 :: 1445 :: 1446 :: 1447 :: 1448 :: 1449 :: 1450 :: 1454 :: 1455 :: 1456 :: 1457 :: 1458 :: 1459 :: 1460 :: 1461 :: 1462 :: []) (by decide +kernel)
theorem strW_ok : ∀ w ∈ strW, w.2.2.2 < 48 ∧ tmS w.2.2.2 = .string w.1 w.2.1 := by decide +kernel
theorem sv_start {s : State} {b : Nat} {A : Nat → Prop} (hts : ∀ w ∈ lw_tbl, w.before #[Value.ref b] s = true) (hs : ∀ w ∈ flG, w.before #[Value.ref b] s = true) (hA : ∀ a : Nat, a < s.heap.size → ¬ A a) : ∃ adK adV : Nat → Nat, SV adK adV A s s.heap := by
  have h0 : ∀ i : Nat, ∃ q : Nat × Nat, i < 48 → (tmS i).eval #[Value.ref b] s none [] s = some (.ref q.1) ∧ va_O "java/lang/String" q.1 A s s.heap ∧ va_OF "java/lang/String" "coder" "B" (.int 0) q.1 A s s.heap ∧ va_OF "java/lang/String" "value" "[B" (.ref q.2) q.1 A s s.heap ∧ ∃ f : Nat → Int32, va_T .byte q.2 (sLn i) (fun j => .int (f j)) A s s.heap := by
    intro i
    by_cases hi : i < 48
    · have hw : ∀ w ∈ svw i, w.before #[Value.ref b] s = true := fun w h => hs w (sv_all i hi w h)
      obtain ⟨a, c, cA, kA, q1, q2, q3, q4, q5, q6, -⟩ := Cond.exactly_spec (args := #[Value.ref b]) (first := s) (o := none) (s := s) (idx := []) (t := tmS i) (cls := "java/lang/String") (hw _ (.head _))
      obtain ⟨t, ht, hT⟩ := va_Tof (f := fun j => .int ((sB.getD i []).getD j 0)) (A := A) (show sLn i < 2 ^ 31 by have := sLn_b hi; omega) (hw _ (.tail _ (.tail _ (.head _)))) (va_eqt (hw _ (.tail _ (.tail _ (.tail _ (.head _)))))) (fun j hj => va_eqt (hw _ (.tail _ (.tail _ (.tail _ (.tail _ (List.mem_map.mpr ⟨j, List.mem_range.mpr hj, rfl⟩))))))) hA
      exact ⟨(a, t), fun _ => ⟨q1, ⟨cA, q3, q5, by rw [q6]; exact q2, hA a (Array.getElem?_eq_some_iff.mp q3).1⟩, vk_OFof q1 (va_eqt (hw _ (.tail _ (.head _)))) hA, vk_OFof q1 ht hA, fun j => (sB.getD i []).getD j 0, hT⟩⟩
    · exact ⟨(0, 0), fun h => absurd h hi⟩
  obtain ⟨ad, had⟩ := Classical.axiomOfChoice h0
  refine ⟨fun i => (ad i).1, fun i => (ad i).2, fun i hi => (had i hi).2, fun w hw => ?_, ?_, ?_⟩
  · have h48 := strW_ok w hw
    exact vk_R.of (hts _ (strW_tbl _ (List.mem_map_of_mem hw))) (by rw [← h48.2]; exact (had _ h48.1).1)
  · exact va_Zof (hts _ (zT2_tbl _ (List.mem_of_getElem? (i := 0) rfl))) (hts _ (zT2_tbl _ (List.mem_of_getElem? (i := 1) rfl))) (va_eqt (hs _ (zT_fl _ (List.mem_of_getElem? (i := 2) rfl)))) hA
  · exact va_Zqof (hts _ (zT2_tbl _ (List.mem_of_getElem? (i := 2) rfl))) (hts _ (zT2_tbl _ (List.mem_of_getElem? (i := 3) rfl))) (hs _ (zT_fl _ (List.mem_of_getElem? (i := 3) rfl))) hA
/-- what calls need of the start holds at the law's entry -/
theorem ev_start {s : State} {b : Nat} {A : Nat → Prop} (hts : ∀ w ∈ lw_tbl, w.before #[Value.ref b] s = true) (hgv : (Jvm.Cond.and given_1 narrow_1).before #[Value.ref b] s = true) (hA : ∀ a : Nat, a < s.heap.size → ¬ A a) : (∃ adK adV : Nat → Nat, EVC adK adV A s s.heap) ∧ NC s ∧ AO s := by
  have hs : ∀ w ∈ flG, w.before #[Value.ref b] s = true := flat_of_before _ hgv
  obtain ⟨adK, adV, hSV⟩ := sv_start hts hs hA
  have hEV : EV A s s.heap := by
    refine ⟨fun w hw => va_Nw.of (nwT_warm w hw).1 (hts w (nwT_tbl w hw)), ⟨fun q hq => ?_, fun E hE => va_Nw.of rfl (hts _ (exT_tbl _ (List.mem_map_of_mem hE))), fun y hy => va_Nw.of rfl (hts _ (dcT_tbl _ (List.mem_map_of_mem hy)))⟩, ?_, ?_⟩
    · obtain ⟨a, c, cell, k, ha, -⟩ := Cond.exactly_spec (hs _ (strT_fl q hq))
      exact ⟨a, vk_R.of (hts _ (strT_tbl _ (List.mem_map_of_mem hq))) ha⟩
    · exact vx_Zqof (hts _ (zT_tbl _ (List.mem_of_getElem? (i := 0) rfl))) (hts _ (zT_tbl _ (List.mem_of_getElem? (i := 2) rfl))) (hs _ (zT_fl _ (List.mem_of_getElem? (i := 0) rfl))) hA
    · exact vx_Zqof (hts _ (zT_tbl _ (List.mem_of_getElem? (i := 1) rfl))) (hts _ (zT_tbl _ (List.mem_of_getElem? (i := 2) rfl))) (hs _ (zT_fl _ (List.mem_of_getElem? (i := 1) rfl))) hA
  exact ⟨⟨adK, adV, ⟨hEV, hSV⟩, fun E hE => va_Nw.of rfl (hts _ (exT2_tbl _ (List.mem_map_of_mem hE)))⟩, fun q hq => va_Nc.of (hs _ (ncT_fl q hq)), fun C hC => va_AO.of (hts _ (aoT_tbl _ (List.mem_map_of_mem hC)))⟩
/-- the classes of the arrays -/
theorem kA_start {s : State} {b : Nat} (hts : ∀ w ∈ lw_tbl, w.before #[Value.ref b] s = true) (hAO : AO s) : ∃ kA : Nat → ClassId, ∀ (k : Nat) (q : ClassId × FieldType), (tyl kA)[k]? = some q → ArrOfT s q.1 q.2 ∧ va_RA s q.1 q.2 := by
  obtain ⟨c0, k0, m0, a0, b0, d0⟩ := Cond.arrayClass_spec (hts (.arrayClass .int) wl_181)
  obtain ⟨c1, k1, m1, a1, b1, d1⟩ := Cond.arrayClass_spec (hts (.arrayClass .boolean) wl_281)
  obtain ⟨c2, k2, m2, a2, b2, d2⟩ := Cond.arrayClass_spec (hts (.arrayClass .long) wl_452)
  obtain ⟨c3, k3, m3, a3, b3, d3⟩ := Cond.arrayClass_spec (hts (.arrayClass .byte) wl_886)
  obtain ⟨m4, c4, k4, e4, -, b4, d4, a4⟩ := Cond.arrayOver_spec (hAO "SeaLand$Settler" (List.mem_of_getElem? (i := 0) rfl))
  obtain ⟨m5, c5, k5, e5, -, b5, d5, a5⟩ := Cond.arrayOver_spec (hAO "SeaLand$Contract" (List.mem_of_getElem? (i := 1) rfl))
  obtain ⟨m6, c6, k6, e6, -, b6, d6, a6⟩ := Cond.arrayOver_spec (hAO "SeaLand$Work" (List.mem_of_getElem? (i := 2) rfl))
  refine ⟨fun k => List.getD [c0, c1, c2, c3, c4, c5, c6] k c0, fun k q hq => ?_⟩
  match k, hq with
  | 0, hq => cases hq; exact ⟨fun n z => ⟨fun k h => (by cases h), k0, b0, m0, d0⟩, a0⟩
  | 1, hq => cases hq; exact ⟨fun n z => ⟨fun k h => (by cases h), k1, b1, m1, d1⟩, a1⟩
  | 2, hq => cases hq; exact ⟨fun n z => ⟨fun k h => (by cases h), k2, b2, m2, d2⟩, a2⟩
  | 3, hq => cases hq; exact ⟨fun n z => ⟨fun k h => (by cases h), k3, b3, m3, d3⟩, a3⟩
  | 4, hq => cases hq; exact ⟨fun n z => ⟨fun k h => (by cases h), k4, b4, m4, d4⟩, k4, m4, b4, d4, e4, a4⟩
  | 5, hq => cases hq; exact ⟨fun n z => ⟨fun k h => (by cases h), k5, b5, m5, d5⟩, k5, m5, b5, d5, e5, a5⟩
  | 6, hq => cases hq; exact ⟨fun n z => ⟨fun k h => (by cases h), k6, b6, m6, d6⟩, k6, m6, b6, d6, e6, a6⟩
  | k + 7, hq => simp [tyl] at hq
/-- each class of the worlds is known -/
theorem kn_start {s : State} {b : Nat} (hts : ∀ w ∈ lw_tbl, w.before #[Value.ref b] s = true) : ∃ (dC : Nat → ClassId) (dI : Nat → Nat → Nat), ∀ (k : Nat) (q : vw_C), vwCl[k]? = some q → u_Kn s q.1 q.2.1 q.2.2 (dC k) (dI k) := by
  obtain ⟨cJ0, iJ0, kJ0⟩ := u_known (C := RJ0) (T := TJ0) (N := 2) (n := 4) hts bt_J0 (hts (.instantiable RJ0 4) (List.mem_of_getElem? (i := 885) (by decide +kernel)))
  obtain ⟨cJx00060, iJx00060, kJx00060⟩ := u_known (C := RJx00060) (T := TJx00060) (N := 6) (n := 6) hts bt_Jx00060 (hts (.instantiable RJx00060 6) (List.mem_of_getElem? (i := 812) (by decide +kernel)))
  obtain ⟨cJx3273f, iJx3273f, kJx3273f⟩ := u_known (C := RJx3273f) (T := TJx3273f) (N := 6) (n := 6) hts bt_Jx3273f (hts (.instantiable RJx3273f 6) (List.mem_of_getElem? (i := 1114) (by decide +kernel)))
  obtain ⟨cX0, iX0, kX0⟩ := u_known (C := RX0) (T := TX0) (N := 18) (n := 18) hts bt_X0 (hts (.instantiable RX0 18) (List.mem_of_getElem? (i := 394) (by decide +kernel)))
  obtain ⟨cX1, iX1, kX1⟩ := u_known (C := RX1) (T := TX1) (N := 8) (n := 8) hts bt_X1 (hts (.instantiable RX1 8) (List.mem_of_getElem? (i := 1769) (by decide +kernel)))
  obtain ⟨cX2, iX2, kX2⟩ := u_known (C := RX2) (T := TX2) (N := 15) (n := 15) hts bt_X2 (hts (.instantiable RX2 15) (List.mem_of_getElem? (i := 209) (by decide +kernel)))
  obtain ⟨cX3, iX3, kX3⟩ := u_known (C := RX3) (T := TX3) (N := 5) (n := 5) hts bt_X3 (hts (.instantiable RX3 5) (List.mem_of_getElem? (i := 151) (by decide +kernel)))
  obtain ⟨cX4, iX4, kX4⟩ := u_known (C := RX4) (T := TX4) (N := 14) (n := 14) hts bt_X4 (hts (.instantiable RX4 14) (List.mem_of_getElem? (i := 402) (by decide +kernel)))
  obtain ⟨cX5, iX5, kX5⟩ := u_known (C := RX5) (T := TX5) (N := 17) (n := 17) hts bt_X5 (hts (.instantiable RX5 17) (List.mem_of_getElem? (i := 528) (by decide +kernel)))
  obtain ⟨cX6, iX6, kX6⟩ := u_known (C := RX6) (T := TX6) (N := 4) (n := 4) hts bt_X6 (hts (.instantiable RX6 4) (List.mem_of_getElem? (i := 373) (by decide +kernel)))
  obtain ⟨cX7, iX7, kX7⟩ := u_known (C := RX7) (T := TX7) (N := 12) (n := 12) hts bt_X7 (hts (.instantiable RX7 12) (List.mem_of_getElem? (i := 1617) (by decide +kernel)))
  obtain ⟨cX8, iX8, kX8⟩ := u_known (C := RX8) (T := TX8) (N := 7) (n := 7) hts bt_X8 (hts (.instantiable RX8 7) (List.mem_of_getElem? (i := 157) (by decide +kernel)))
  obtain ⟨cX9, iX9, kX9⟩ := u_known (C := RX9) (T := TX9) (N := 3) (n := 3) hts bt_X9 (hts (.instantiable RX9 3) (List.mem_of_getElem? (i := 163) (by decide +kernel)))
  obtain ⟨cX10, iX10, kX10⟩ := u_known (C := RX10) (T := TX10) (N := 12) (n := 12) hts bt_X10 (hts (.instantiable RX10 12) (List.mem_of_getElem? (i := 284) (by decide +kernel)))
  obtain ⟨cX11, iX11, kX11⟩ := u_known (C := RX11) (T := TX11) (N := 9) (n := 9) hts bt_X11 (hts (.instantiable RX11 9) (List.mem_of_getElem? (i := 143) (by decide +kernel)))
  obtain ⟨cX12, iX12, kX12⟩ := u_known (C := RX12) (T := TX12) (N := 78) (n := 78) hts bt_X12 (hts (.instantiable RX12 78) (List.mem_of_getElem? (i := 1964) (by decide +kernel)))
  refine ⟨fun k => List.getD [cJ0, cJx00060, cJx3273f, cX0, cX1, cX2, cX3, cX4, cX5, cX6, cX7, cX8, cX9, cX10, cX11, cX12] k cJ0, fun k => List.getD [iJ0, iJx00060, iJx3273f, iX0, iX1, iX2, iX3, iX4, iX5, iX6, iX7, iX8, iX9, iX10, iX11, iX12] k iJ0, ?_⟩
  intro k q hq
  match k, hq with
  | 0, hq => cases hq; exact kJ0
  | 1, hq => cases hq; exact kJx00060
  | 2, hq => cases hq; exact kJx3273f
  | 3, hq => cases hq; exact kX0
  | 4, hq => cases hq; exact kX1
  | 5, hq => cases hq; exact kX2
  | 6, hq => cases hq; exact kX3
  | 7, hq => cases hq; exact kX4
  | 8, hq => cases hq; exact kX5
  | 9, hq => cases hq; exact kX6
  | 10, hq => cases hq; exact kX7
  | 11, hq => cases hq; exact kX8
  | 12, hq => cases hq; exact kX9
  | 13, hq => cases hq; exact kX10
  | 14, hq => cases hq; exact kX11
  | 15, hq => cases hq; exact kX12
  | k + 16, hq => simp [vwCl] at hq
