theorem dX11_rests_0 : decode cX11_rests 0 = .ok (.iload_n 1, 1) := by decide +kernel
theorem dX11_rests_1 : decode cX11_rests 1 = .ok (.invokestatic 325, 3) := by decide +kernel
theorem dX11_rests_4 : decode cX11_rests 4 = .ok (.ifCond .eq 15, 3) := by decide +kernel
theorem dX11_rests_7 : decode cX11_rests 7 = .ok (.iload_n 2, 1) := by decide +kernel
theorem dX11_rests_8 : decode cX11_rests 8 = .ok (.invokestatic 325, 3) := by decide +kernel
theorem dX11_rests_11 : decode cX11_rests 11 = .ok (.ifCond .eq 8, 3) := by decide +kernel
theorem dX11_rests_14 : decode cX11_rests 14 = .ok (.iload_n 3, 1) := by decide +kernel
theorem dX11_rests_15 : decode cX11_rests 15 = .ok (.iconst (-1), 1) := by decide +kernel
theorem dX11_rests_16 : decode cX11_rests 16 = .ok (.if_icmp .ge 14, 3) := by decide +kernel
theorem dX11_rests_19 : decode cX11_rests 19 = .ok (.new 328, 3) := by decide +kernel
theorem dX11_rests_22 : decode cX11_rests 22 = .ok (.dup, 1) := by decide +kernel
theorem dX11_rests_23 : decode cX11_rests 23 = .ok (.ldc_w 330, 3) := by decide +kernel
theorem dX11_rests_26 : decode cX11_rests 26 = .ok (.invokespecial 332, 3) := by decide +kernel
theorem dX11_rests_29 : decode cX11_rests 29 = .ok (.athrow, 1) := by decide +kernel
theorem dX11_rests_30 : decode cX11_rests 30 = .ok (.iconst 0, 1) := by decide +kernel
theorem dX11_rests_31 : decode cX11_rests 31 = .ok (.istore 4, 2) := by decide +kernel
theorem dX11_rests_33 : decode cX11_rests 33 = .ok (.iconst 0, 1) := by decide +kernel
theorem dX11_rests_34 : decode cX11_rests 34 = .ok (.istore 5, 2) := by decide +kernel
theorem dX11_rests_36 : decode cX11_rests 36 = .ok (.iload 5, 2) := by decide +kernel
theorem dX11_rests_38 : decode cX11_rests 38 = .ok (.iconst 4, 1) := by decide +kernel
theorem dX11_rests_39 : decode cX11_rests 39 = .ok (.if_icmp .ge 31, 3) := by decide +kernel
theorem dX11_rests_42 : decode cX11_rests 42 = .ok (.iload_n 1, 1) := by decide +kernel
theorem dX11_rests_43 : decode cX11_rests 43 = .ok (.iload_n 2, 1) := by decide +kernel
theorem dX11_rests_44 : decode cX11_rests 44 = .ok (.iload 5, 2) := by decide +kernel
theorem dX11_rests_46 : decode cX11_rests 46 = .ok (.invokestatic 335, 3) := by decide +kernel
theorem dX11_rests_49 : decode cX11_rests 49 = .ok (.ifCond .eq 15, 3) := by decide +kernel
theorem dX11_rests_52 : decode cX11_rests 52 = .ok (.iload 4, 2) := by decide +kernel
theorem dX11_rests_54 : decode cX11_rests 54 = .ok (.iload_n 3, 1) := by decide +kernel
theorem dX11_rests_55 : decode cX11_rests 55 = .ok (.if_icmp .ne 6, 3) := by decide +kernel
theorem dX11_rests_58 : decode cX11_rests 58 = .ok (.iload 5, 2) := by decide +kernel
theorem dX11_rests_60 : decode cX11_rests 60 = .ok (.ireturn, 1) := by decide +kernel
theorem dX11_rests_61 : decode cX11_rests 61 = .ok (.iinc 4 1, 3) := by decide +kernel
theorem dX11_rests_64 : decode cX11_rests 64 = .ok (.iinc 5 1, 3) := by decide +kernel
theorem dX11_rests_67 : decode cX11_rests 67 = .ok (.goto (-31), 3) := by decide +kernel
theorem dX11_rests_70 : decode cX11_rests 70 = .ok (.iload_n 3, 1) := by decide +kernel
theorem dX11_rests_71 : decode cX11_rests 71 = .ok (.iconst (-1), 1) := by decide +kernel
theorem dX11_rests_72 : decode cX11_rests 72 = .ok (.if_icmp .eq 14, 3) := by decide +kernel
theorem dX11_rests_75 : decode cX11_rests 75 = .ok (.new 328, 3) := by decide +kernel
theorem dX11_rests_78 : decode cX11_rests 78 = .ok (.dup, 1) := by decide +kernel
theorem dX11_rests_79 : decode cX11_rests 79 = .ok (.ldc_w 339, 3) := by decide +kernel
theorem dX11_rests_82 : decode cX11_rests 82 = .ok (.invokespecial 332, 3) := by decide +kernel
theorem dX11_rests_85 : decode cX11_rests 85 = .ok (.athrow, 1) := by decide +kernel
theorem dX11_rests_86 : decode cX11_rests 86 = .ok (.iload 4, 2) := by decide +kernel
theorem dX11_rests_88 : decode cX11_rests 88 = .ok (.ireturn, 1) := by decide +kernel
theorem dX11_isStake_0 : decode cX11_isStake 0 = .ok (.iload_n 0, 1) := by decide +kernel
theorem dX11_isStake_1 : decode cX11_isStake 1 = .ok (.ifCond .lt 13, 3) := by decide +kernel
theorem dX11_isStake_4 : decode cX11_isStake 4 = .ok (.iload_n 0, 1) := by decide +kernel
theorem dX11_isStake_5 : decode cX11_isStake 5 = .ok (.bipush 9, 2) := by decide +kernel
theorem dX11_isStake_7 : decode cX11_isStake 7 = .ok (.if_icmp .gt 7, 3) := by decide +kernel
theorem dX11_isStake_10 : decode cX11_isStake 10 = .ok (.iconst 1, 1) := by decide +kernel
theorem dX11_isStake_11 : decode cX11_isStake 11 = .ok (.goto 4, 3) := by decide +kernel
theorem dX11_isStake_14 : decode cX11_isStake 14 = .ok (.iconst 0, 1) := by decide +kernel
theorem dX11_isStake_15 : decode cX11_isStake 15 = .ok (.ireturn, 1) := by decide +kernel
set_option maxRecDepth 20000 in
theorem ggX11_isAtRest_X11_guardGets : GoodIn wsX11_isAtRest wsX11_guardGets := goodIn_r _ [4] (by decide +kernel) (by decide +kernel)
set_option maxRecDepth 20000 in
theorem gX11_isAtRest_X11_guardGets : GoodIn wsX11_isAtRest (va_wsS RX11 341 yX11_guardGets wsX11_guardGets) := goodIn_app (goodIn_of _ (by decide +kernel)) ggX11_isAtRest_X11_guardGets
set_option maxRecDepth 20000 in
theorem ggX11_isAtRest_X11_travellerGets : GoodIn wsX11_isAtRest wsX11_travellerGets := goodIn_r _ [7] (by decide +kernel) (by decide +kernel)
set_option maxRecDepth 20000 in
theorem gX11_isAtRest_X11_travellerGets : GoodIn wsX11_isAtRest (va_wsS RX11 345 yX11_travellerGets wsX11_travellerGets) := goodIn_app (goodIn_of _ (by decide +kernel)) ggX11_isAtRest_X11_travellerGets
theorem dX11_isAtRest_0 : decode cX11_isAtRest 0 = .ok (.iload_n 0, 1) := by decide +kernel
theorem dX11_isAtRest_1 : decode cX11_isAtRest 1 = .ok (.iload_n 1, 1) := by decide +kernel
theorem dX11_isAtRest_2 : decode cX11_isAtRest 2 = .ok (.iload_n 2, 1) := by decide +kernel
theorem dX11_isAtRest_3 : decode cX11_isAtRest 3 = .ok (.iconst 2, 1) := by decide +kernel
theorem dX11_isAtRest_4 : decode cX11_isAtRest 4 = .ok (.ixor, 1) := by decide +kernel
theorem dX11_isAtRest_5 : decode cX11_isAtRest 5 = .ok (.invokestatic 341, 3) := by decide +kernel
theorem dX11_isAtRest_8 : decode cX11_isAtRest 8 = .ok (.iload_n 0, 1) := by decide +kernel
theorem dX11_isAtRest_9 : decode cX11_isAtRest 9 = .ok (.iload_n 1, 1) := by decide +kernel
theorem dX11_isAtRest_10 : decode cX11_isAtRest 10 = .ok (.iload_n 2, 1) := by decide +kernel
theorem dX11_isAtRest_11 : decode cX11_isAtRest 11 = .ok (.invokestatic 341, 3) := by decide +kernel
theorem dX11_isAtRest_14 : decode cX11_isAtRest 14 = .ok (.if_icmp .gt 24, 3) := by decide +kernel
theorem dX11_isAtRest_17 : decode cX11_isAtRest 17 = .ok (.iload_n 0, 1) := by decide +kernel
theorem dX11_isAtRest_18 : decode cX11_isAtRest 18 = .ok (.iload_n 1, 1) := by decide +kernel
