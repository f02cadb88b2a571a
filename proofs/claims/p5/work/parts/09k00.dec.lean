theorem dX11_rests_0 : decode cX11_rests 0 = .ok (.iload_n 1, 1) := by decide +kernel
theorem dX11_rests_1 : decode cX11_rests 1 = .ok (.invokestatic 325, 3) := by decide +kernel
theorem dX11_rests_4 : decode cX11_rests 4 = .ok (.ifCond .eq 15, 3) := by decide +kernel
theorem dX11_rests_7 : decode cX11_rests 7 = .ok (.iload_n 2, 1) := by decide +kernel
theorem dX11_rests_8 : decode cX11_rests 8 = .ok (.invokestatic 325, 3) := by decide +kernel
theorem dX11_rests_11 : decode cX11_rests 11 = .ok (.ifCond .eq 8, 3) := by decide +kernel
theorem dX11_rests_14 : decode cX11_rests 14 = .ok (.iload_n 3, 1) := by decide +kernel
theorem dX11_rests_15 : decode cX11_rests 15 = .ok (.iconst (-1), 1) := by decide +kernel
theorem dX11_rests_16 : decode cX11_rests 16 = .ok (.if_icmp .ge 14, 3) := by decide +kernel
theorem dX11_rests_19 : decode cX11_rests 19 = .ok (.new 328, 3) := by decide +kernel
theorem dX11_rests_22 : decode cX11_rests 22 = .ok (.dup, 1) := by decide +kernel
theorem dX11_rests_23 : decode cX11_rests 23 = .ok (.ldc_w 330, 3) := by decide +kernel
theorem dX11_rests_26 : decode cX11_rests 26 = .ok (.invokespecial 332, 3) := by decide +kernel
theorem dX11_rests_29 : decode cX11_rests 29 = .ok (.athrow, 1) := by decide +kernel
theorem dX11_rests_30 : decode cX11_rests 30 = .ok (.iconst 0, 1) := by decide +kernel
theorem dX11_rests_31 : decode cX11_rests 31 = .ok (.istore 4, 2) := by decide +kernel
theorem dX11_rests_33 : decode cX11_rests 33 = .ok (.iconst 0, 1) := by decide +kernel
theorem dX11_rests_34 : decode cX11_rests 34 = .ok (.istore 5, 2) := by decide +kernel
theorem dX11_rests_36 : decode cX11_rests 36 = .ok (.iload 5, 2) := by decide +kernel
theorem dX11_rests_38 : decode cX11_rests 38 = .ok (.iconst 4, 1) := by decide +kernel
theorem dX11_rests_39 : decode cX11_rests 39 = .ok (.if_icmp .ge 31, 3) := by decide +kernel
theorem dX11_rests_42 : decode cX11_rests 42 = .ok (.iload_n 1, 1) := by decide +kernel
theorem dX11_rests_43 : decode cX11_rests 43 = .ok (.iload_n 2, 1) := by decide +kernel
theorem dX11_rests_44 : decode cX11_rests 44 = .ok (.iload 5, 2) := by decide +kernel
theorem dX11_rests_46 : decode cX11_rests 46 = .ok (.invokestatic 335, 3) := by decide +kernel
theorem dX11_rests_49 : decode cX11_rests 49 = .ok (.ifCond .eq 15, 3) := by decide +kernel
theorem dX11_rests_52 : decode cX11_rests 52 = .ok (.iload 4, 2) := by decide +kernel
theorem dX11_rests_54 : decode cX11_rests 54 = .ok (.iload_n 3, 1) := by decide +kernel
theorem dX11_rests_55 : decode cX11_rests 55 = .ok (.if_icmp .ne 6, 3) := by decide +kernel
theorem dX11_rests_58 : decode cX11_rests 58 = .ok (.iload 5, 2) := by decide +kernel
theorem dX11_rests_60 : decode cX11_rests 60 = .ok (.ireturn, 1) := by decide +kernel
theorem dX11_rests_61 : decode cX11_rests 61 = .ok (.iinc 4 1, 3) := by decide +kernel
theorem dX11_rests_64 : decode cX11_rests 64 = .ok (.iinc 5 1, 3) := by decide +kernel
theorem dX11_rests_67 : decode cX11_rests 67 = .ok (.goto (-31), 3) := by decide +kernel
theorem dX11_rests_70 : decode cX11_rests 70 = .ok (.iload_n 3, 1) := by decide +kernel
theorem dX11_rests_71 : decode cX11_rests 71 = .ok (.iconst (-1), 1) := by decide +kernel
theorem dX11_rests_72 : decode cX11_rests 72 = .ok (.if_icmp .eq 14, 3) := by decide +kernel
theorem dX11_rests_75 : decode cX11_rests 75 = .ok (.new 328, 3) := by decide +kernel
theorem dX11_rests_78 : decode cX11_rests 78 = .ok (.dup, 1) := by decide +kernel
theorem dX11_rests_79 : decode cX11_rests 79 = .ok (.ldc_w 339, 3) := by decide +kernel
theorem dX11_rests_82 : decode cX11_rests 82 = .ok (.invokespecial 332, 3) := by decide +kernel
theorem dX11_rests_85 : decode cX11_rests 85 = .ok (.athrow, 1) := by decide +kernel
theorem dX11_rests_86 : decode cX11_rests 86 = .ok (.iload 4, 2) := by decide +kernel
theorem dX11_rests_88 : decode cX11_rests 88 = .ok (.ireturn, 1) := by decide +kernel
theorem dX11_isAtRest_0 : decode cX11_isAtRest 0 = .ok (.iload_n 0, 1) := by decide +kernel
theorem dX11_isAtRest_1 : decode cX11_isAtRest 1 = .ok (.iload_n 1, 1) := by decide +kernel
theorem dX11_isAtRest_2 : decode cX11_isAtRest 2 = .ok (.iload_n 2, 1) := by decide +kernel
theorem dX11_isAtRest_3 : decode cX11_isAtRest 3 = .ok (.iconst 2, 1) := by decide +kernel
theorem dX11_isAtRest_4 : decode cX11_isAtRest 4 = .ok (.ixor, 1) := by decide +kernel
theorem dX11_isAtRest_5 : decode cX11_isAtRest 5 = .ok (.invokestatic 341, 3) := by decide +kernel
theorem dX11_isAtRest_8 : decode cX11_isAtRest 8 = .ok (.iload_n 0, 1) := by decide +kernel
theorem dX11_isAtRest_9 : decode cX11_isAtRest 9 = .ok (.iload_n 1, 1) := by decide +kernel
theorem dX11_isAtRest_10 : decode cX11_isAtRest 10 = .ok (.iload_n 2, 1) := by decide +kernel
theorem dX11_isAtRest_11 : decode cX11_isAtRest 11 = .ok (.invokestatic 341, 3) := by decide +kernel
theorem dX11_isAtRest_14 : decode cX11_isAtRest 14 = .ok (.if_icmp .gt 24, 3) := by decide +kernel
theorem dX11_isAtRest_17 : decode cX11_isAtRest 17 = .ok (.iload_n 0, 1) := by decide +kernel
theorem dX11_isAtRest_18 : decode cX11_isAtRest 18 = .ok (.iload_n 1, 1) := by decide +kernel
theorem dX11_isAtRest_19 : decode cX11_isAtRest 19 = .ok (.iload_n 2, 1) := by decide +kernel
theorem dX11_isAtRest_20 : decode cX11_isAtRest 20 = .ok (.iconst 1, 1) := by decide +kernel
theorem dX11_isAtRest_21 : decode cX11_isAtRest 21 = .ok (.ixor, 1) := by decide +kernel
theorem dX11_isAtRest_22 : decode cX11_isAtRest 22 = .ok (.invokestatic 345, 3) := by decide +kernel
theorem dX11_isAtRest_25 : decode cX11_isAtRest 25 = .ok (.iload_n 0, 1) := by decide +kernel
theorem dX11_isAtRest_26 : decode cX11_isAtRest 26 = .ok (.iload_n 1, 1) := by decide +kernel
theorem dX11_isAtRest_27 : decode cX11_isAtRest 27 = .ok (.iload_n 2, 1) := by decide +kernel
theorem dX11_isAtRest_28 : decode cX11_isAtRest 28 = .ok (.invokestatic 345, 3) := by decide +kernel
theorem dX11_isAtRest_31 : decode cX11_isAtRest 31 = .ok (.if_icmp .gt 7, 3) := by decide +kernel
theorem dX11_isAtRest_34 : decode cX11_isAtRest 34 = .ok (.iconst 1, 1) := by decide +kernel
theorem dX11_isAtRest_35 : decode cX11_isAtRest 35 = .ok (.goto 4, 3) := by decide +kernel
theorem dX11_isAtRest_38 : decode cX11_isAtRest 38 = .ok (.iconst 0, 1) := by decide +kernel
theorem dX11_isAtRest_39 : decode cX11_isAtRest 39 = .ok (.ireturn, 1) := by decide +kernel
theorem dX11_guardGets_0 : decode cX11_guardGets 0 = .ok (.iload_n 2, 1) := by decide +kernel
theorem dX11_guardGets_1 : decode cX11_guardGets 1 = .ok (.tableswitch 34 1 3 #[27, 30, 32], 27) := by decide +kernel
theorem dX11_guardGets_28 : decode cX11_guardGets 28 = .ok (.iload_n 1, 1) := by decide +kernel
theorem dX11_guardGets_29 : decode cX11_guardGets 29 = .ok (.ineg, 1) := by decide +kernel
theorem dX11_guardGets_30 : decode cX11_guardGets 30 = .ok (.ireturn, 1) := by decide +kernel
theorem dX11_guardGets_31 : decode cX11_guardGets 31 = .ok (.iconst (-1), 1) := by decide +kernel
theorem dX11_guardGets_32 : decode cX11_guardGets 32 = .ok (.ireturn, 1) := by decide +kernel
theorem dX11_guardGets_33 : decode cX11_guardGets 33 = .ok (.iload_n 0, 1) := by decide +kernel
theorem dX11_guardGets_34 : decode cX11_guardGets 34 = .ok (.ireturn, 1) := by decide +kernel
theorem dX11_guardGets_35 : decode cX11_guardGets 35 = .ok (.iconst 0, 1) := by decide +kernel
theorem dX11_guardGets_36 : decode cX11_guardGets 36 = .ok (.ireturn, 1) := by decide +kernel
theorem dX11_travellerGets_0 : decode cX11_travellerGets 0 = .ok (.iload_n 2, 1) := by decide +kernel
theorem dX11_travellerGets_1 : decode cX11_travellerGets 1 = .ok (.lookupswitch 32 #[(1, 27), (3, 29)], 27) := by decide +kernel
theorem dX11_travellerGets_28 : decode cX11_travellerGets 28 = .ok (.iload_n 1, 1) := by decide +kernel
theorem dX11_travellerGets_29 : decode cX11_travellerGets 29 = .ok (.ireturn, 1) := by decide +kernel
theorem dX11_travellerGets_30 : decode cX11_travellerGets 30 = .ok (.iload_n 0, 1) := by decide +kernel
theorem dX11_travellerGets_31 : decode cX11_travellerGets 31 = .ok (.ineg, 1) := by decide +kernel
theorem dX11_travellerGets_32 : decode cX11_travellerGets 32 = .ok (.ireturn, 1) := by decide +kernel
theorem dX11_travellerGets_33 : decode cX11_travellerGets 33 = .ok (.iconst 0, 1) := by decide +kernel
theorem dX11_travellerGets_34 : decode cX11_travellerGets 34 = .ok (.ireturn, 1) := by decide +kernel
theorem dL_rests_0 : decode cL_rests 0 = .ok (.aload 4, 2) := by decide +kernel
theorem dL_rests_2 : decode cL_rests 2 = .ok (.iconst 0, 1) := by decide +kernel
theorem dL_rests_3 : decode cL_rests 3 = .ok (.aload_n 0, 1) := by decide +kernel
theorem dL_rests_4 : decode cL_rests 4 = .ok (.iload_n 1, 1) := by decide +kernel
theorem dL_rests_5 : decode cL_rests 5 = .ok (.iload_n 2, 1) := by decide +kernel
theorem dL_rests_6 : decode cL_rests 6 = .ok (.iload_n 3, 1) := by decide +kernel
theorem dL_rests_7 : decode cL_rests 7 = .ok (.invokevirtual 7, 3) := by decide +kernel
theorem dL_rests_10 : decode cL_rests 10 = .ok (.i2l, 1) := by decide +kernel
theorem dL_rests_11 : decode cL_rests 11 = .ok (.lastore, 1) := by decide +kernel
theorem dL_rests_12 : decode cL_rests 12 = .ok (.goto 7, 3) := by decide +kernel
theorem dL_rests_15 : decode cL_rests 15 = .ok (.astore 5, 2) := by decide +kernel
theorem dL_rests_17 : decode cL_rests 17 = .ok (.iconst 1, 1) := by decide +kernel
theorem dL_rests_18 : decode cL_rests 18 = .ok (.ireturn, 1) := by decide +kernel
theorem dL_rests_19 : decode cL_rests 19 = .ok (.iconst 0, 1) := by decide +kernel
theorem dL_rests_20 : decode cL_rests 20 = .ok (.ireturn, 1) := by decide +kernel
