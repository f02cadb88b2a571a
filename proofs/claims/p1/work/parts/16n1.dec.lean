theorem dX11_isAtRest_19 : decode cX11_isAtRest 19 = .ok (.iload_n 2, 1) := by decide +kernel
theorem dX11_isAtRest_20 : decode cX11_isAtRest 20 = .ok (.iconst 1, 1) := by decide +kernel
theorem dX11_isAtRest_21 : decode cX11_isAtRest 21 = .ok (.ixor, 1) := by decide +kernel
theorem dX11_isAtRest_22 : decode cX11_isAtRest 22 = .ok (.invokestatic 345, 3) := by decide +kernel
theorem dX11_isAtRest_25 : decode cX11_isAtRest 25 = .ok (.iload_n 0, 1) := by decide +kernel
theorem dX11_isAtRest_26 : decode cX11_isAtRest 26 = .ok (.iload_n 1, 1) := by decide +kernel
theorem dX11_isAtRest_27 : decode cX11_isAtRest 27 = .ok (.iload_n 2, 1) := by decide +kernel
theorem dX11_isAtRest_28 : decode cX11_isAtRest 28 = .ok (.invokestatic 345, 3) := by decide +kernel
theorem dX11_isAtRest_31 : decode cX11_isAtRest 31 = .ok (.if_icmp .gt 7, 3) := by decide +kernel
theorem dX11_isAtRest_34 : decode cX11_isAtRest 34 = .ok (.iconst 1, 1) := by decide +kernel
theorem dX11_isAtRest_35 : decode cX11_isAtRest 35 = .ok (.goto 4, 3) := by decide +kernel
theorem dX11_isAtRest_38 : decode cX11_isAtRest 38 = .ok (.iconst 0, 1) := by decide +kernel
theorem dX11_isAtRest_39 : decode cX11_isAtRest 39 = .ok (.ireturn, 1) := by decide +kernel
theorem dX11_guardGets_0 : decode cX11_guardGets 0 = .ok (.iload_n 2, 1) := by decide +kernel
theorem dX11_guardGets_1 : decode cX11_guardGets 1 = .ok (.tableswitch 34 1 3 #[27, 30, 32], 27) := by decide +kernel
theorem dX11_guardGets_28 : decode cX11_guardGets 28 = .ok (.iload_n 1, 1) := by decide +kernel
theorem dX11_guardGets_29 : decode cX11_guardGets 29 = .ok (.ineg, 1) := by decide +kernel
theorem dX11_guardGets_30 : decode cX11_guardGets 30 = .ok (.ireturn, 1) := by decide +kernel
theorem dX11_guardGets_31 : decode cX11_guardGets 31 = .ok (.iconst (-1), 1) := by decide +kernel
theorem dX11_guardGets_32 : decode cX11_guardGets 32 = .ok (.ireturn, 1) := by decide +kernel
theorem dX11_guardGets_33 : decode cX11_guardGets 33 = .ok (.iload_n 0, 1) := by decide +kernel
theorem dX11_guardGets_34 : decode cX11_guardGets 34 = .ok (.ireturn, 1) := by decide +kernel
theorem dX11_guardGets_35 : decode cX11_guardGets 35 = .ok (.iconst 0, 1) := by decide +kernel
theorem dX11_guardGets_36 : decode cX11_guardGets 36 = .ok (.ireturn, 1) := by decide +kernel
theorem dX11_travellerGets_0 : decode cX11_travellerGets 0 = .ok (.iload_n 2, 1) := by decide +kernel
theorem dX11_travellerGets_1 : decode cX11_travellerGets 1 = .ok (.lookupswitch 32 #[(1, 27), (3, 29)], 27) := by decide +kernel
theorem dX11_travellerGets_28 : decode cX11_travellerGets 28 = .ok (.iload_n 1, 1) := by decide +kernel
theorem dX11_travellerGets_29 : decode cX11_travellerGets 29 = .ok (.ireturn, 1) := by decide +kernel
theorem dX11_travellerGets_30 : decode cX11_travellerGets 30 = .ok (.iload_n 0, 1) := by decide +kernel
theorem dX11_travellerGets_31 : decode cX11_travellerGets 31 = .ok (.ineg, 1) := by decide +kernel
theorem dX11_travellerGets_32 : decode cX11_travellerGets 32 = .ok (.ireturn, 1) := by decide +kernel
theorem dX11_travellerGets_33 : decode cX11_travellerGets 33 = .ok (.iconst 0, 1) := by decide +kernel
theorem dX11_travellerGets_34 : decode cX11_travellerGets 34 = .ok (.ireturn, 1) := by decide +kernel
theorem dX12_guardGets_0 : decode cX12_guardGets 0 = .ok (.iload_n 3, 1) := by decide +kernel
theorem dX12_guardGets_1 : decode cX12_guardGets 1 = .ok (.iconst 1, 1) := by decide +kernel
theorem dX12_guardGets_2 : decode cX12_guardGets 2 = .ok (.if_icmp .ne 17, 3) := by decide +kernel
theorem dX12_guardGets_5 : decode cX12_guardGets 5 = .ok (.iload_n 2, 1) := by decide +kernel
theorem dX12_guardGets_6 : decode cX12_guardGets 6 = .ok (.iconst 1, 1) := by decide +kernel
theorem dX12_guardGets_7 : decode cX12_guardGets 7 = .ok (.if_icmp .ne 7, 3) := by decide +kernel
theorem dX12_guardGets_10 : decode cX12_guardGets 10 = .ok (.iload_n 0, 1) := by decide +kernel
theorem dX12_guardGets_11 : decode cX12_guardGets 11 = .ok (.goto 18, 3) := by decide +kernel
theorem dX12_guardGets_14 : decode cX12_guardGets 14 = .ok (.iload_n 1, 1) := by decide +kernel
theorem dX12_guardGets_15 : decode cX12_guardGets 15 = .ok (.ineg, 1) := by decide +kernel
theorem dX12_guardGets_16 : decode cX12_guardGets 16 = .ok (.goto 13, 3) := by decide +kernel
theorem dX12_guardGets_19 : decode cX12_guardGets 19 = .ok (.iload_n 2, 1) := by decide +kernel
theorem dX12_guardGets_20 : decode cX12_guardGets 20 = .ok (.iconst 1, 1) := by decide +kernel
theorem dX12_guardGets_21 : decode cX12_guardGets 21 = .ok (.if_icmp .ne 7, 3) := by decide +kernel
theorem dX12_guardGets_24 : decode cX12_guardGets 24 = .ok (.iconst (-1), 1) := by decide +kernel
theorem dX12_guardGets_25 : decode cX12_guardGets 25 = .ok (.goto 4, 3) := by decide +kernel
theorem dX12_guardGets_28 : decode cX12_guardGets 28 = .ok (.iconst 0, 1) := by decide +kernel
theorem dX12_guardGets_29 : decode cX12_guardGets 29 = .ok (.ireturn, 1) := by decide +kernel
theorem dX12_travellerGets_0 : decode cX12_travellerGets 0 = .ok (.iload_n 3, 1) := by decide +kernel
theorem dX12_travellerGets_1 : decode cX12_travellerGets 1 = .ok (.ifCond .ne 7, 3) := by decide +kernel
theorem dX12_travellerGets_4 : decode cX12_travellerGets 4 = .ok (.iconst 0, 1) := by decide +kernel
theorem dX12_travellerGets_5 : decode cX12_travellerGets 5 = .ok (.goto 14, 3) := by decide +kernel
theorem dX12_travellerGets_8 : decode cX12_travellerGets 8 = .ok (.iload_n 2, 1) := by decide +kernel
theorem dX12_travellerGets_9 : decode cX12_travellerGets 9 = .ok (.iconst 1, 1) := by decide +kernel
theorem dX12_travellerGets_10 : decode cX12_travellerGets 10 = .ok (.if_icmp .ne 8, 3) := by decide +kernel
theorem dX12_travellerGets_13 : decode cX12_travellerGets 13 = .ok (.iload_n 0, 1) := by decide +kernel
theorem dX12_travellerGets_14 : decode cX12_travellerGets 14 = .ok (.ineg, 1) := by decide +kernel
theorem dX12_travellerGets_15 : decode cX12_travellerGets 15 = .ok (.goto 4, 3) := by decide +kernel
theorem dX12_travellerGets_18 : decode cX12_travellerGets 18 = .ok (.iload_n 1, 1) := by decide +kernel
theorem dX12_travellerGets_19 : decode cX12_travellerGets 19 = .ok (.ireturn, 1) := by decide +kernel
set_option maxRecDepth 20000 in
theorem ggX12_rests_X12_within : GoodIn wsX12_rests wsX12_within := goodIn_r _ [5] (by decide +kernel) (by decide +kernel)
set_option maxRecDepth 20000 in
theorem gX12_rests_X12_within : GoodIn wsX12_rests (va_wsS RX12 252 yX12_within wsX12_within) := goodIn_app (goodIn_of _ (by decide +kernel)) ggX12_rests_X12_within
set_option maxRecDepth 20000 in
theorem ggX12_rests_X12_guardGets : GoodIn wsX12_rests wsX12_guardGets := goodIn_r _ [8] (by decide +kernel) (by decide +kernel)
set_option maxRecDepth 20000 in
theorem gX12_rests_X12_guardGets : GoodIn wsX12_rests (va_wsS RX12 447 yX12_guardGets wsX12_guardGets) := goodIn_app (goodIn_of _ (by decide +kernel)) ggX12_rests_X12_guardGets
set_option maxRecDepth 20000 in
theorem ggX12_rests_X12_travellerGets : GoodIn wsX12_rests wsX12_travellerGets := goodIn_r _ [11] (by decide +kernel) (by decide +kernel)
set_option maxRecDepth 20000 in
theorem gX12_rests_X12_travellerGets : GoodIn wsX12_rests (va_wsS RX12 451 yX12_travellerGets wsX12_travellerGets) := goodIn_app (goodIn_of _ (by decide +kernel)) ggX12_rests_X12_travellerGets
theorem dX12_rests_0 : decode cX12_rests 0 = .ok (.aload_n 0, 1) := by decide +kernel
