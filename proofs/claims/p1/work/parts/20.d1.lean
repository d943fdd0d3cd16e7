theorem dX11_within_0 : decode cX11_within 0 = .ok (.iload_n 1, 1) := by decide +kernel
theorem dX11_within_1 : decode cX11_within 1 = .ok (.iload_n 0, 1) := by decide +kernel
theorem dX11_within_2 : decode cX11_within 2 = .ok (.if_icmp .gt 12, 3) := by decide +kernel
theorem dX11_within_5 : decode cX11_within 5 = .ok (.iload_n 0, 1) := by decide +kernel
theorem dX11_within_6 : decode cX11_within 6 = .ok (.iload_n 2, 1) := by decide +kernel
theorem dX11_within_7 : decode cX11_within 7 = .ok (.if_icmp .gt 7, 3) := by decide +kernel
theorem dX11_within_10 : decode cX11_within 10 = .ok (.iconst 1, 1) := by decide +kernel
theorem dX11_within_11 : decode cX11_within 11 = .ok (.goto 4, 3) := by decide +kernel
theorem dX11_within_14 : decode cX11_within 14 = .ok (.iconst 0, 1) := by decide +kernel
theorem dX11_within_15 : decode cX11_within 15 = .ok (.ireturn, 1) := by decide +kernel
theorem dX11_needNumbers_0 : decode cX11_needNumbers 0 = .ok (.iload_n 0, 1) := by decide +kernel
theorem dX11_needNumbers_1 : decode cX11_needNumbers 1 = .ok (.ifCond .ne 14, 3) := by decide +kernel
theorem dX11_needNumbers_4 : decode cX11_needNumbers 4 = .ok (.new 547, 3) := by decide +kernel
theorem dX11_needNumbers_7 : decode cX11_needNumbers 7 = .ok (.dup, 1) := by decide +kernel
theorem dX11_needNumbers_8 : decode cX11_needNumbers 8 = .ok (.ldc_w 549, 3) := by decide +kernel
theorem dX11_needNumbers_11 : decode cX11_needNumbers 11 = .ok (.invokespecial 551, 3) := by decide +kernel
theorem dX11_needNumbers_14 : decode cX11_needNumbers 14 = .ok (.athrow, 1) := by decide +kernel
theorem dX11_needNumbers_15 : decode cX11_needNumbers 15 = .ok (.return_, 1) := by decide +kernel
theorem dX11_needSquare_0 : decode cX11_needSquare 0 = .ok (.iload_n 0, 1) := by decide +kernel
theorem dX11_needSquare_1 : decode cX11_needSquare 1 = .ok (.iconst 0, 1) := by decide +kernel
theorem dX11_needSquare_2 : decode cX11_needSquare 2 = .ok (.bipush 95, 2) := by decide +kernel
theorem dX11_needSquare_4 : decode cX11_needSquare 4 = .ok (.invokestatic 58, 3) := by decide +kernel
theorem dX11_needSquare_7 : decode cX11_needSquare 7 = .ok (.ifCond .ne 14, 3) := by decide +kernel
theorem dX11_needSquare_10 : decode cX11_needSquare 10 = .ok (.new 557, 3) := by decide +kernel
theorem dX11_needSquare_13 : decode cX11_needSquare 13 = .ok (.dup, 1) := by decide +kernel
theorem dX11_needSquare_14 : decode cX11_needSquare 14 = .ok (.ldc_w 559, 3) := by decide +kernel
theorem dX11_needSquare_17 : decode cX11_needSquare 17 = .ok (.invokespecial 561, 3) := by decide +kernel
theorem dX11_needSquare_20 : decode cX11_needSquare 20 = .ok (.athrow, 1) := by decide +kernel
theorem dX11_needSquare_21 : decode cX11_needSquare 21 = .ok (.return_, 1) := by decide +kernel
theorem dX12_in_0 : decode cX12_in 0 = .ok (.iload_n 0, 1) := by decide +kernel
theorem dX12_in_1 : decode cX12_in 1 = .ok (.iload_n 1, 1) := by decide +kernel
theorem dX12_in_2 : decode cX12_in 2 = .ok (.if_icmp .lt 12, 3) := by decide +kernel
theorem dX12_in_5 : decode cX12_in 5 = .ok (.iload_n 0, 1) := by decide +kernel
theorem dX12_in_6 : decode cX12_in 6 = .ok (.iload_n 2, 1) := by decide +kernel
theorem dX12_in_7 : decode cX12_in 7 = .ok (.if_icmp .gt 7, 3) := by decide +kernel
theorem dX12_in_10 : decode cX12_in 10 = .ok (.iconst 1, 1) := by decide +kernel
theorem dX12_in_11 : decode cX12_in 11 = .ok (.goto 4, 3) := by decide +kernel
theorem dX12_in_14 : decode cX12_in 14 = .ok (.iconst 0, 1) := by decide +kernel
theorem dX12_in_15 : decode cX12_in 15 = .ok (.ireturn, 1) := by decide +kernel
theorem dX12_noSquare_0 : decode cX12_noSquare 0 = .ok (.iload_n 0, 1) := by decide +kernel
theorem dX12_noSquare_1 : decode cX12_noSquare 1 = .ok (.iconst 0, 1) := by decide +kernel
theorem dX12_noSquare_2 : decode cX12_noSquare 2 = .ok (.bipush 95, 2) := by decide +kernel
theorem dX12_noSquare_4 : decode cX12_noSquare 4 = .ok (.invokestatic 197, 3) := by decide +kernel
theorem dX12_noSquare_7 : decode cX12_noSquare 7 = .ok (.ifCond .ne 7, 3) := by decide +kernel
theorem dX12_noSquare_10 : decode cX12_noSquare 10 = .ok (.iconst 1, 1) := by decide +kernel
theorem dX12_noSquare_11 : decode cX12_noSquare 11 = .ok (.goto 4, 3) := by decide +kernel
theorem dX12_noSquare_14 : decode cX12_noSquare 14 = .ok (.iconst 0, 1) := by decide +kernel
theorem dX12_noSquare_15 : decode cX12_noSquare 15 = .ok (.ireturn, 1) := by decide +kernel
theorem dX12_throwsIf_0 : decode cX12_throwsIf 0 = .ok (.iload_n 1, 1) := by decide +kernel
theorem dX12_throwsIf_1 : decode cX12_throwsIf 1 = .ok (.ifCond .eq 8, 3) := by decide +kernel
theorem dX12_throwsIf_4 : decode cX12_throwsIf 4 = .ok (.aload_n 0, 1) := by decide +kernel
theorem dX12_throwsIf_5 : decode cX12_throwsIf 5 = .ok (.iload_n 2, 1) := by decide +kernel
theorem dX12_throwsIf_6 : decode cX12_throwsIf 6 = .ok (.putfield 194, 3) := by decide +kernel
theorem dX12_throwsIf_9 : decode cX12_throwsIf 9 = .ok (.iload_n 1, 1) := by decide +kernel
theorem dX12_throwsIf_10 : decode cX12_throwsIf 10 = .ok (.ireturn, 1) := by decide +kernel
theorem dX12_thrown_0 : decode cX12_thrown 0 = .ok (.aload_n 0, 1) := by decide +kernel
theorem dX12_thrown_1 : decode cX12_thrown 1 = .ok (.getfield 194, 3) := by decide +kernel
theorem dX12_thrown_4 : decode cX12_thrown 4 = .ok (.ireturn, 1) := by decide +kernel
