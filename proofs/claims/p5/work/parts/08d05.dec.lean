theorem dX12_letsHim_0 : decode cX12_letsHim 0 = .ok (.aload_n 0, 1) := by decide +kernel
theorem dX12_letsHim_1 : decode cX12_letsHim 1 = .ok (.getfield 29, 3) := by decide +kernel
theorem dX12_letsHim_4 : decode cX12_letsHim 4 = .ok (.iload_n 2, 1) := by decide +kernel
theorem dX12_letsHim_5 : decode cX12_letsHim 5 = .ok (.iaload, 1) := by decide +kernel
theorem dX12_letsHim_6 : decode cX12_letsHim 6 = .ok (.iconst 2, 1) := by decide +kernel
theorem dX12_letsHim_7 : decode cX12_letsHim 7 = .ok (.if_icmp .ne 5, 3) := by decide +kernel
theorem dX12_letsHim_10 : decode cX12_letsHim 10 = .ok (.iconst 1, 1) := by decide +kernel
theorem dX12_letsHim_11 : decode cX12_letsHim 11 = .ok (.ireturn, 1) := by decide +kernel
theorem dX12_letsHim_12 : decode cX12_letsHim 12 = .ok (.aload_n 0, 1) := by decide +kernel
theorem dX12_letsHim_13 : decode cX12_letsHim 13 = .ok (.getfield 23, 3) := by decide +kernel
theorem dX12_letsHim_16 : decode cX12_letsHim 16 = .ok (.iload_n 1, 1) := by decide +kernel
theorem dX12_letsHim_17 : decode cX12_letsHim 17 = .ok (.iaload, 1) := by decide +kernel
theorem dX12_letsHim_18 : decode cX12_letsHim 18 = .ok (.aload_n 0, 1) := by decide +kernel
theorem dX12_letsHim_19 : decode cX12_letsHim 19 = .ok (.getfield 349, 3) := by decide +kernel
theorem dX12_letsHim_22 : decode cX12_letsHim 22 = .ok (.iadd, 1) := by decide +kernel
theorem dX12_letsHim_23 : decode cX12_letsHim 23 = .ok (.istore_n 3, 1) := by decide +kernel
theorem dX12_letsHim_24 : decode cX12_letsHim 24 = .ok (.aload_n 0, 1) := by decide +kernel
theorem dX12_letsHim_25 : decode cX12_letsHim 25 = .ok (.aload_n 0, 1) := by decide +kernel
theorem dX12_letsHim_26 : decode cX12_letsHim 26 = .ok (.getfield 108, 3) := by decide +kernel
theorem dX12_letsHim_29 : decode cX12_letsHim 29 = .ok (.bipush 7, 2) := by decide +kernel
theorem dX12_letsHim_31 : decode cX12_letsHim 31 = .ok (.iload_n 2, 1) := by decide +kernel
theorem dX12_letsHim_32 : decode cX12_letsHim 32 = .ok (.iadd, 1) := by decide +kernel
theorem dX12_letsHim_33 : decode cX12_letsHim 33 = .ok (.iaload, 1) := by decide +kernel
theorem dX12_letsHim_34 : decode cX12_letsHim 34 = .ok (.aload_n 0, 1) := by decide +kernel
theorem dX12_letsHim_35 : decode cX12_letsHim 35 = .ok (.getfield 108, 3) := by decide +kernel
theorem dX12_letsHim_38 : decode cX12_letsHim 38 = .ok (.bipush 13, 2) := by decide +kernel
theorem dX12_letsHim_40 : decode cX12_letsHim 40 = .ok (.iload_n 2, 1) := by decide +kernel
theorem dX12_letsHim_41 : decode cX12_letsHim 41 = .ok (.iadd, 1) := by decide +kernel
theorem dX12_letsHim_42 : decode cX12_letsHim 42 = .ok (.iaload, 1) := by decide +kernel
theorem dX12_letsHim_43 : decode cX12_letsHim 43 = .ok (.iadd, 1) := by decide +kernel
theorem dX12_letsHim_44 : decode cX12_letsHim 44 = .ok (.aload_n 0, 1) := by decide +kernel
theorem dX12_letsHim_45 : decode cX12_letsHim 45 = .ok (.getfield 108, 3) := by decide +kernel
theorem dX12_letsHim_48 : decode cX12_letsHim 48 = .ok (.bipush 13, 2) := by decide +kernel
theorem dX12_letsHim_50 : decode cX12_letsHim 50 = .ok (.iload_n 2, 1) := by decide +kernel
theorem dX12_letsHim_51 : decode cX12_letsHim 51 = .ok (.iadd, 1) := by decide +kernel
theorem dX12_letsHim_52 : decode cX12_letsHim 52 = .ok (.iaload, 1) := by decide +kernel
theorem dX12_letsHim_53 : decode cX12_letsHim 53 = .ok (.aload_n 0, 1) := by decide +kernel
theorem dX12_letsHim_54 : decode cX12_letsHim 54 = .ok (.getfield 29, 3) := by decide +kernel
theorem dX12_letsHim_57 : decode cX12_letsHim 57 = .ok (.iload_n 2, 1) := by decide +kernel
theorem dX12_letsHim_58 : decode cX12_letsHim 58 = .ok (.iaload, 1) := by decide +kernel
theorem dX12_letsHim_59 : decode cX12_letsHim 59 = .ok (.iconst 3, 1) := by decide +kernel
theorem dX12_letsHim_60 : decode cX12_letsHim 60 = .ok (.if_icmp .ne 9, 3) := by decide +kernel
theorem dX12_letsHim_63 : decode cX12_letsHim 63 = .ok (.iload_n 3, 1) := by decide +kernel
theorem dX12_letsHim_64 : decode cX12_letsHim 64 = .ok (.iconst 2, 1) := by decide +kernel
theorem dX12_letsHim_65 : decode cX12_letsHim 65 = .ok (.idiv, 1) := by decide +kernel
theorem dX12_letsHim_66 : decode cX12_letsHim 66 = .ok (.goto 4, 3) := by decide +kernel
theorem dX12_letsHim_69 : decode cX12_letsHim 69 = .ok (.iload_n 3, 1) := by decide +kernel
theorem dX12_letsHim_70 : decode cX12_letsHim 70 = .ok (.invokevirtual 352, 3) := by decide +kernel
theorem dX12_letsHim_73 : decode cX12_letsHim 73 = .ok (.ireturn, 1) := by decide +kernel
theorem dX12_speakersAt_0 : decode cX12_speakersAt 0 = .ok (.iconst 0, 1) := by decide +kernel
theorem dX12_speakersAt_1 : decode cX12_speakersAt 1 = .ok (.istore_n 3, 1) := by decide +kernel
theorem dX12_speakersAt_2 : decode cX12_speakersAt 2 = .ok (.iconst 0, 1) := by decide +kernel
theorem dX12_speakersAt_3 : decode cX12_speakersAt 3 = .ok (.istore 4, 2) := by decide +kernel
theorem dX12_speakersAt_5 : decode cX12_speakersAt 5 = .ok (.iload 4, 2) := by decide +kernel
theorem dX12_speakersAt_7 : decode cX12_speakersAt 7 = .ok (.aload_n 0, 1) := by decide +kernel
theorem dX12_speakersAt_8 : decode cX12_speakersAt 8 = .ok (.getfield 13, 3) := by decide +kernel
theorem dX12_speakersAt_11 : decode cX12_speakersAt 11 = .ok (.iconst 1, 1) := by decide +kernel
theorem dX12_speakersAt_12 : decode cX12_speakersAt 12 = .ok (.iaload, 1) := by decide +kernel
theorem dX12_speakersAt_13 : decode cX12_speakersAt 13 = .ok (.if_icmp .ge 54, 3) := by decide +kernel
theorem dX12_speakersAt_16 : decode cX12_speakersAt 16 = .ok (.iload_n 3, 1) := by decide +kernel
theorem dX12_speakersAt_17 : decode cX12_speakersAt 17 = .ok (.aload_n 0, 1) := by decide +kernel
theorem dX12_speakersAt_18 : decode cX12_speakersAt 18 = .ok (.getfield 29, 3) := by decide +kernel
theorem dX12_speakersAt_21 : decode cX12_speakersAt 21 = .ok (.iload 4, 2) := by decide +kernel
theorem dX12_speakersAt_23 : decode cX12_speakersAt 23 = .ok (.iaload, 1) := by decide +kernel
theorem dX12_speakersAt_24 : decode cX12_speakersAt 24 = .ok (.iconst 1, 1) := by decide +kernel
theorem dX12_speakersAt_25 : decode cX12_speakersAt 25 = .ok (.if_icmp .eq 33, 3) := by decide +kernel
theorem dX12_speakersAt_28 : decode cX12_speakersAt 28 = .ok (.aload_n 0, 1) := by decide +kernel
theorem dX12_speakersAt_29 : decode cX12_speakersAt 29 = .ok (.getfield 108, 3) := by decide +kernel
theorem dX12_speakersAt_32 : decode cX12_speakersAt 32 = .ok (.iconst 1, 1) := by decide +kernel
theorem dX12_speakersAt_33 : decode cX12_speakersAt 33 = .ok (.iload 4, 2) := by decide +kernel
theorem dX12_speakersAt_35 : decode cX12_speakersAt 35 = .ok (.iadd, 1) := by decide +kernel
theorem dX12_speakersAt_36 : decode cX12_speakersAt 36 = .ok (.iaload, 1) := by decide +kernel
theorem dX12_speakersAt_37 : decode cX12_speakersAt 37 = .ok (.iload_n 1, 1) := by decide +kernel
theorem dX12_speakersAt_38 : decode cX12_speakersAt 38 = .ok (.if_icmp .ne 20, 3) := by decide +kernel
theorem dX12_speakersAt_41 : decode cX12_speakersAt 41 = .ok (.aload_n 0, 1) := by decide +kernel
theorem dX12_speakersAt_42 : decode cX12_speakersAt 42 = .ok (.iload_n 2, 1) := by decide +kernel
theorem dX12_speakersAt_43 : decode cX12_speakersAt 43 = .ok (.iload 4, 2) := by decide +kernel
theorem dX12_speakersAt_45 : decode cX12_speakersAt 45 = .ok (.invokevirtual 355, 3) := by decide +kernel
theorem dX12_speakersAt_48 : decode cX12_speakersAt 48 = .ok (.ifCond .eq 10, 3) := by decide +kernel
theorem dX12_speakersAt_51 : decode cX12_speakersAt 51 = .ok (.iconst 1, 1) := by decide +kernel
theorem dX12_speakersAt_52 : decode cX12_speakersAt 52 = .ok (.iload 4, 2) := by decide +kernel
theorem dX12_speakersAt_54 : decode cX12_speakersAt 54 = .ok (.ishl, 1) := by decide +kernel
theorem dX12_speakersAt_55 : decode cX12_speakersAt 55 = .ok (.goto 4, 3) := by decide +kernel
theorem dX12_speakersAt_58 : decode cX12_speakersAt 58 = .ok (.iconst 0, 1) := by decide +kernel
theorem dX12_speakersAt_59 : decode cX12_speakersAt 59 = .ok (.ior, 1) := by decide +kernel
theorem dX12_speakersAt_60 : decode cX12_speakersAt 60 = .ok (.istore_n 3, 1) := by decide +kernel
theorem dX12_speakersAt_61 : decode cX12_speakersAt 61 = .ok (.iinc 4 1, 3) := by decide +kernel
theorem dX12_speakersAt_64 : decode cX12_speakersAt 64 = .ok (.goto (-59), 3) := by decide +kernel
theorem dX12_speakersAt_67 : decode cX12_speakersAt 67 = .ok (.iload_n 3, 1) := by decide +kernel
theorem dX12_speakersAt_68 : decode cX12_speakersAt 68 = .ok (.ireturn, 1) := by decide +kernel
theorem dX12_lets_0 : decode cX12_lets 0 = .ok (.aload_n 0, 1) := by decide +kernel
theorem dX12_lets_1 : decode cX12_lets 1 = .ok (.getfield 29, 3) := by decide +kernel
theorem dX12_lets_4 : decode cX12_lets 4 = .ok (.iload_n 2, 1) := by decide +kernel
theorem dX12_lets_5 : decode cX12_lets 5 = .ok (.iaload, 1) := by decide +kernel
theorem dX12_lets_6 : decode cX12_lets 6 = .ok (.iconst 1, 1) := by decide +kernel
theorem dX12_lets_7 : decode cX12_lets 7 = .ok (.if_icmp .ne 20, 3) := by decide +kernel
theorem dX12_lets_10 : decode cX12_lets 10 = .ok (.aload_n 0, 1) := by decide +kernel
theorem dX12_lets_11 : decode cX12_lets 11 = .ok (.iload_n 3, 1) := by decide +kernel
theorem dX12_lets_12 : decode cX12_lets 12 = .ok (.iload_n 1, 1) := by decide +kernel
theorem dX12_lets_13 : decode cX12_lets 13 = .ok (.invokevirtual 358, 3) := by decide +kernel
theorem dX12_lets_16 : decode cX12_lets 16 = .ok (.ifCond .eq 7, 3) := by decide +kernel
theorem dX12_lets_19 : decode cX12_lets 19 = .ok (.iconst 1, 1) := by decide +kernel
theorem dX12_lets_20 : decode cX12_lets 20 = .ok (.goto 13, 3) := by decide +kernel
theorem dX12_lets_23 : decode cX12_lets 23 = .ok (.iconst 0, 1) := by decide +kernel
theorem dX12_lets_24 : decode cX12_lets 24 = .ok (.goto 9, 3) := by decide +kernel
theorem dX12_lets_27 : decode cX12_lets 27 = .ok (.aload_n 0, 1) := by decide +kernel
theorem dX12_lets_28 : decode cX12_lets 28 = .ok (.iload_n 1, 1) := by decide +kernel
theorem dX12_lets_29 : decode cX12_lets 29 = .ok (.iload_n 2, 1) := by decide +kernel
theorem dX12_lets_30 : decode cX12_lets 30 = .ok (.invokevirtual 355, 3) := by decide +kernel
theorem dX12_lets_33 : decode cX12_lets 33 = .ok (.ireturn, 1) := by decide +kernel
theorem dX12_canGo_0 : decode cX12_canGo 0 = .ok (.aload_n 0, 1) := by decide +kernel
theorem dX12_canGo_1 : decode cX12_canGo 1 = .ok (.getfield 26, 3) := by decide +kernel
theorem dX12_canGo_4 : decode cX12_canGo 4 = .ok (.aload_n 0, 1) := by decide +kernel
theorem dX12_canGo_5 : decode cX12_canGo 5 = .ok (.getfield 108, 3) := by decide +kernel
theorem dX12_canGo_8 : decode cX12_canGo 8 = .ok (.iconst 1, 1) := by decide +kernel
theorem dX12_canGo_9 : decode cX12_canGo 9 = .ok (.iload_n 1, 1) := by decide +kernel
theorem dX12_canGo_10 : decode cX12_canGo 10 = .ok (.iadd, 1) := by decide +kernel
theorem dX12_canGo_11 : decode cX12_canGo 11 = .ok (.iaload, 1) := by decide +kernel
theorem dX12_canGo_12 : decode cX12_canGo 12 = .ok (.iaload, 1) := by decide +kernel
theorem dX12_canGo_13 : decode cX12_canGo 13 = .ok (.iload_n 2, 1) := by decide +kernel
theorem dX12_canGo_14 : decode cX12_canGo 14 = .ok (.ishr, 1) := by decide +kernel
theorem dX12_canGo_15 : decode cX12_canGo 15 = .ok (.iconst 1, 1) := by decide +kernel
theorem dX12_canGo_16 : decode cX12_canGo 16 = .ok (.iand, 1) := by decide +kernel
theorem dX12_canGo_17 : decode cX12_canGo 17 = .ok (.iconst 1, 1) := by decide +kernel
theorem dX12_canGo_18 : decode cX12_canGo 18 = .ok (.if_icmp .ne 24, 3) := by decide +kernel
theorem dX12_canGo_21 : decode cX12_canGo 21 = .ok (.aload_n 0, 1) := by decide +kernel
theorem dX12_canGo_22 : decode cX12_canGo 22 = .ok (.iload_n 2, 1) := by decide +kernel
theorem dX12_canGo_23 : decode cX12_canGo 23 = .ok (.iload_n 1, 1) := by decide +kernel
theorem dX12_canGo_24 : decode cX12_canGo 24 = .ok (.aload_n 0, 1) := by decide +kernel
theorem dX12_canGo_25 : decode cX12_canGo 25 = .ok (.getfield 108, 3) := by decide +kernel
theorem dX12_canGo_28 : decode cX12_canGo 28 = .ok (.iconst 1, 1) := by decide +kernel
theorem dX12_canGo_29 : decode cX12_canGo 29 = .ok (.iload_n 1, 1) := by decide +kernel
theorem dX12_canGo_30 : decode cX12_canGo 30 = .ok (.iadd, 1) := by decide +kernel
theorem dX12_canGo_31 : decode cX12_canGo 31 = .ok (.iaload, 1) := by decide +kernel
theorem dX12_canGo_32 : decode cX12_canGo 32 = .ok (.invokevirtual 362, 3) := by decide +kernel
theorem dX12_canGo_35 : decode cX12_canGo 35 = .ok (.ifCond .eq 7, 3) := by decide +kernel
theorem dX12_canGo_38 : decode cX12_canGo 38 = .ok (.iconst 1, 1) := by decide +kernel
theorem dX12_canGo_39 : decode cX12_canGo 39 = .ok (.goto 4, 3) := by decide +kernel
theorem dX12_canGo_42 : decode cX12_canGo 42 = .ok (.iconst 0, 1) := by decide +kernel
theorem dX12_canGo_43 : decode cX12_canGo 43 = .ok (.ireturn, 1) := by decide +kernel
theorem dX12_goes_0 : decode cX12_goes 0 = .ok (.aload_n 0, 1) := by decide +kernel
theorem dX12_goes_1 : decode cX12_goes 1 = .ok (.getfield 108, 3) := by decide +kernel
theorem dX12_goes_4 : decode cX12_goes 4 = .ok (.iconst 1, 1) := by decide +kernel
theorem dX12_goes_5 : decode cX12_goes 5 = .ok (.iload_n 1, 1) := by decide +kernel
theorem dX12_goes_6 : decode cX12_goes 6 = .ok (.iadd, 1) := by decide +kernel
theorem dX12_goes_7 : decode cX12_goes 7 = .ok (.iload_n 2, 1) := by decide +kernel
theorem dX12_goes_8 : decode cX12_goes 8 = .ok (.iastore, 1) := by decide +kernel
theorem dX12_goes_9 : decode cX12_goes 9 = .ok (.aload_n 0, 1) := by decide +kernel
theorem dX12_goes_10 : decode cX12_goes 10 = .ok (.getfield 108, 3) := by decide +kernel
theorem dX12_goes_13 : decode cX12_goes 13 = .ok (.bipush 25, 2) := by decide +kernel
theorem dX12_goes_15 : decode cX12_goes 15 = .ok (.iload_n 1, 1) := by decide +kernel
theorem dX12_goes_16 : decode cX12_goes 16 = .ok (.iadd, 1) := by decide +kernel
theorem dX12_goes_17 : decode cX12_goes 17 = .ok (.dup2, 1) := by decide +kernel
theorem dX12_goes_18 : decode cX12_goes 18 = .ok (.iaload, 1) := by decide +kernel
theorem dX12_goes_19 : decode cX12_goes 19 = .ok (.iconst 1, 1) := by decide +kernel
theorem dX12_goes_20 : decode cX12_goes 20 = .ok (.iload_n 2, 1) := by decide +kernel
theorem dX12_goes_21 : decode cX12_goes 21 = .ok (.ishl, 1) := by decide +kernel
theorem dX12_goes_22 : decode cX12_goes 22 = .ok (.ior, 1) := by decide +kernel
theorem dX12_goes_23 : decode cX12_goes 23 = .ok (.iastore, 1) := by decide +kernel
theorem dX12_goes_24 : decode cX12_goes 24 = .ok (.return_, 1) := by decide +kernel
theorem dX12_canForge_0 : decode cX12_canForge 0 = .ok (.aload_n 0, 1) := by decide +kernel
theorem dX12_canForge_1 : decode cX12_canForge 1 = .ok (.getfield 29, 3) := by decide +kernel
theorem dX12_canForge_4 : decode cX12_canForge 4 = .ok (.iload_n 1, 1) := by decide +kernel
theorem dX12_canForge_5 : decode cX12_canForge 5 = .ok (.iaload, 1) := by decide +kernel
theorem dX12_canForge_6 : decode cX12_canForge 6 = .ok (.iconst 1, 1) := by decide +kernel
theorem dX12_canForge_7 : decode cX12_canForge 7 = .ok (.if_icmp .eq 43, 3) := by decide +kernel
theorem dX12_canForge_10 : decode cX12_canForge 10 = .ok (.aload_n 0, 1) := by decide +kernel
theorem dX12_canForge_11 : decode cX12_canForge 11 = .ok (.getfield 108, 3) := by decide +kernel
theorem dX12_canForge_14 : decode cX12_canForge 14 = .ok (.bipush 19, 2) := by decide +kernel
theorem dX12_canForge_16 : decode cX12_canForge 16 = .ok (.iload_n 1, 1) := by decide +kernel
theorem dX12_canForge_17 : decode cX12_canForge 17 = .ok (.iadd, 1) := by decide +kernel
theorem dX12_canForge_18 : decode cX12_canForge 18 = .ok (.iaload, 1) := by decide +kernel
theorem dX12_canForge_19 : decode cX12_canForge 19 = .ok (.iload_n 2, 1) := by decide +kernel
theorem dX12_canForge_20 : decode cX12_canForge 20 = .ok (.aload_n 0, 1) := by decide +kernel
theorem dX12_canForge_21 : decode cX12_canForge 21 = .ok (.getfield 13, 3) := by decide +kernel
theorem dX12_canForge_24 : decode cX12_canForge 24 = .ok (.iconst 3, 1) := by decide +kernel
theorem dX12_canForge_25 : decode cX12_canForge 25 = .ok (.iaload, 1) := by decide +kernel
theorem dX12_canForge_26 : decode cX12_canForge 26 = .ok (.imul, 1) := by decide +kernel
theorem dX12_canForge_27 : decode cX12_canForge 27 = .ok (.if_icmp .lt 23, 3) := by decide +kernel
theorem dX12_canForge_30 : decode cX12_canForge 30 = .ok (.aload_n 0, 1) := by decide +kernel
theorem dX12_canForge_31 : decode cX12_canForge 31 = .ok (.getfield 108, 3) := by decide +kernel
theorem dX12_canForge_34 : decode cX12_canForge 34 = .ok (.bipush 13, 2) := by decide +kernel
theorem dX12_canForge_36 : decode cX12_canForge 36 = .ok (.iload_n 1, 1) := by decide +kernel
theorem dX12_canForge_37 : decode cX12_canForge 37 = .ok (.iadd, 1) := by decide +kernel
theorem dX12_canForge_38 : decode cX12_canForge 38 = .ok (.iaload, 1) := by decide +kernel
theorem dX12_canForge_39 : decode cX12_canForge 39 = .ok (.iload_n 2, 1) := by decide +kernel
theorem dX12_canForge_40 : decode cX12_canForge 40 = .ok (.iadd, 1) := by decide +kernel
theorem dX12_canForge_41 : decode cX12_canForge 41 = .ok (.bipush 20, 2) := by decide +kernel
theorem dX12_canForge_43 : decode cX12_canForge 43 = .ok (.if_icmp .gt 7, 3) := by decide +kernel
theorem dX12_canForge_46 : decode cX12_canForge 46 = .ok (.iconst 1, 1) := by decide +kernel
theorem dX12_canForge_47 : decode cX12_canForge 47 = .ok (.goto 4, 3) := by decide +kernel
theorem dX12_canForge_50 : decode cX12_canForge 50 = .ok (.iconst 0, 1) := by decide +kernel
theorem dX12_canForge_51 : decode cX12_canForge 51 = .ok (.ireturn, 1) := by decide +kernel
theorem dX12_forges_0 : decode cX12_forges 0 = .ok (.aload_n 0, 1) := by decide +kernel
theorem dX12_forges_1 : decode cX12_forges 1 = .ok (.getfield 108, 3) := by decide +kernel
theorem dX12_forges_4 : decode cX12_forges 4 = .ok (.bipush 19, 2) := by decide +kernel
theorem dX12_forges_6 : decode cX12_forges 6 = .ok (.iload_n 1, 1) := by decide +kernel
theorem dX12_forges_7 : decode cX12_forges 7 = .ok (.iadd, 1) := by decide +kernel
theorem dX12_forges_8 : decode cX12_forges 8 = .ok (.dup2, 1) := by decide +kernel
theorem dX12_forges_9 : decode cX12_forges 9 = .ok (.iaload, 1) := by decide +kernel
theorem dX12_forges_10 : decode cX12_forges 10 = .ok (.iload_n 2, 1) := by decide +kernel
theorem dX12_forges_11 : decode cX12_forges 11 = .ok (.aload_n 0, 1) := by decide +kernel
theorem dX12_forges_12 : decode cX12_forges 12 = .ok (.getfield 13, 3) := by decide +kernel
theorem dX12_forges_15 : decode cX12_forges 15 = .ok (.iconst 3, 1) := by decide +kernel
theorem dX12_forges_16 : decode cX12_forges 16 = .ok (.iaload, 1) := by decide +kernel
theorem dX12_forges_17 : decode cX12_forges 17 = .ok (.imul, 1) := by decide +kernel
theorem dX12_forges_18 : decode cX12_forges 18 = .ok (.isub, 1) := by decide +kernel
theorem dX12_forges_19 : decode cX12_forges 19 = .ok (.iastore, 1) := by decide +kernel
theorem dX12_forges_20 : decode cX12_forges 20 = .ok (.aload_n 0, 1) := by decide +kernel
theorem dX12_forges_21 : decode cX12_forges 21 = .ok (.getfield 108, 3) := by decide +kernel
theorem dX12_forges_24 : decode cX12_forges 24 = .ok (.bipush 13, 2) := by decide +kernel
theorem dX12_forges_26 : decode cX12_forges 26 = .ok (.iload_n 1, 1) := by decide +kernel
theorem dX12_forges_27 : decode cX12_forges 27 = .ok (.iadd, 1) := by decide +kernel
theorem dX12_forges_28 : decode cX12_forges 28 = .ok (.dup2, 1) := by decide +kernel
theorem dX12_forges_29 : decode cX12_forges 29 = .ok (.iaload, 1) := by decide +kernel
theorem dX12_forges_30 : decode cX12_forges 30 = .ok (.iload_n 2, 1) := by decide +kernel
theorem dX12_forges_31 : decode cX12_forges 31 = .ok (.iadd, 1) := by decide +kernel
theorem dX12_forges_32 : decode cX12_forges 32 = .ok (.iastore, 1) := by decide +kernel
theorem dX12_forges_33 : decode cX12_forges 33 = .ok (.return_, 1) := by decide +kernel
theorem dX12_shaves_0 : decode cX12_shaves 0 = .ok (.aload_n 0, 1) := by decide +kernel
theorem dX12_shaves_1 : decode cX12_shaves 1 = .ok (.getfield 108, 3) := by decide +kernel
theorem dX12_shaves_4 : decode cX12_shaves 4 = .ok (.bipush 7, 2) := by decide +kernel
theorem dX12_shaves_6 : decode cX12_shaves 6 = .ok (.iload_n 1, 1) := by decide +kernel
theorem dX12_shaves_7 : decode cX12_shaves 7 = .ok (.iadd, 1) := by decide +kernel
theorem dX12_shaves_8 : decode cX12_shaves 8 = .ok (.iconst 0, 1) := by decide +kernel
theorem dX12_shaves_9 : decode cX12_shaves 9 = .ok (.iastore, 1) := by decide +kernel
theorem dX12_shaves_10 : decode cX12_shaves 10 = .ok (.aload_n 0, 1) := by decide +kernel
theorem dX12_shaves_11 : decode cX12_shaves 11 = .ok (.getfield 108, 3) := by decide +kernel
theorem dX12_shaves_14 : decode cX12_shaves 14 = .ok (.bipush 13, 2) := by decide +kernel
theorem dX12_shaves_16 : decode cX12_shaves 16 = .ok (.iload_n 1, 1) := by decide +kernel
theorem dX12_shaves_17 : decode cX12_shaves 17 = .ok (.iadd, 1) := by decide +kernel
theorem dX12_shaves_18 : decode cX12_shaves 18 = .ok (.iconst 0, 1) := by decide +kernel
theorem dX12_shaves_19 : decode cX12_shaves 19 = .ok (.iastore, 1) := by decide +kernel
theorem dX12_shaves_20 : decode cX12_shaves 20 = .ok (.return_, 1) := by decide +kernel
theorem dX12_passes_0 : decode cX12_passes 0 = .ok (.iconst 0, 1) := by decide +kernel
theorem dX12_passes_1 : decode cX12_passes 1 = .ok (.istore_n 1, 1) := by decide +kernel
theorem dX12_passes_2 : decode cX12_passes 2 = .ok (.iload_n 1, 1) := by decide +kernel
theorem dX12_passes_3 : decode cX12_passes 3 = .ok (.aload_n 0, 1) := by decide +kernel
theorem dX12_passes_4 : decode cX12_passes 4 = .ok (.getfield 13, 3) := by decide +kernel
theorem dX12_passes_7 : decode cX12_passes 7 = .ok (.iconst 1, 1) := by decide +kernel
theorem dX12_passes_8 : decode cX12_passes 8 = .ok (.iaload, 1) := by decide +kernel
theorem dX12_passes_9 : decode cX12_passes 9 = .ok (.if_icmp .ge 49, 3) := by decide +kernel
theorem dX12_passes_12 : decode cX12_passes 12 = .ok (.aload_n 0, 1) := by decide +kernel
theorem dX12_passes_13 : decode cX12_passes 13 = .ok (.getfield 29, 3) := by decide +kernel
theorem dX12_passes_16 : decode cX12_passes 16 = .ok (.iload_n 1, 1) := by decide +kernel
theorem dX12_passes_17 : decode cX12_passes 17 = .ok (.iaload, 1) := by decide +kernel
theorem dX12_passes_18 : decode cX12_passes 18 = .ok (.iconst 1, 1) := by decide +kernel
theorem dX12_passes_19 : decode cX12_passes 19 = .ok (.if_icmp .eq 33, 3) := by decide +kernel
theorem dX12_passes_22 : decode cX12_passes 22 = .ok (.aload_n 0, 1) := by decide +kernel
theorem dX12_passes_23 : decode cX12_passes 23 = .ok (.getfield 108, 3) := by decide +kernel
theorem dX12_passes_26 : decode cX12_passes 26 = .ok (.bipush 7, 2) := by decide +kernel
theorem dX12_passes_28 : decode cX12_passes 28 = .ok (.iload_n 1, 1) := by decide +kernel
theorem dX12_passes_29 : decode cX12_passes 29 = .ok (.iadd, 1) := by decide +kernel
theorem dX12_passes_30 : decode cX12_passes 30 = .ok (.bipush 60, 2) := by decide +kernel
theorem dX12_passes_32 : decode cX12_passes 32 = .ok (.aload_n 0, 1) := by decide +kernel
theorem dX12_passes_33 : decode cX12_passes 33 = .ok (.getfield 108, 3) := by decide +kernel
theorem dX12_passes_36 : decode cX12_passes 36 = .ok (.bipush 7, 2) := by decide +kernel
theorem dX12_passes_38 : decode cX12_passes 38 = .ok (.iload_n 1, 1) := by decide +kernel
theorem dX12_passes_39 : decode cX12_passes 39 = .ok (.iadd, 1) := by decide +kernel
theorem dX12_passes_40 : decode cX12_passes 40 = .ok (.iaload, 1) := by decide +kernel
theorem dX12_passes_41 : decode cX12_passes 41 = .ok (.aload_n 0, 1) := by decide +kernel
theorem dX12_passes_42 : decode cX12_passes 42 = .ok (.getfield 13, 3) := by decide +kernel
theorem dX12_passes_45 : decode cX12_passes 45 = .ok (.iconst 2, 1) := by decide +kernel
theorem dX12_passes_46 : decode cX12_passes 46 = .ok (.iaload, 1) := by decide +kernel
theorem dX12_passes_47 : decode cX12_passes 47 = .ok (.iadd, 1) := by decide +kernel
theorem dX12_passes_48 : decode cX12_passes 48 = .ok (.invokestatic 365, 3) := by decide +kernel
theorem dX12_passes_51 : decode cX12_passes 51 = .ok (.iastore, 1) := by decide +kernel
theorem dX12_passes_52 : decode cX12_passes 52 = .ok (.iinc 1 1, 3) := by decide +kernel
theorem dX12_passes_55 : decode cX12_passes 55 = .ok (.goto (-53), 3) := by decide +kernel
theorem dX12_passes_58 : decode cX12_passes 58 = .ok (.aload_n 0, 1) := by decide +kernel
theorem dX12_passes_59 : decode cX12_passes 59 = .ok (.getfield 108, 3) := by decide +kernel
theorem dX12_passes_62 : decode cX12_passes 62 = .ok (.iconst 0, 1) := by decide +kernel
theorem dX12_passes_63 : decode cX12_passes 63 = .ok (.dup2, 1) := by decide +kernel
theorem dX12_passes_64 : decode cX12_passes 64 = .ok (.iaload, 1) := by decide +kernel
theorem dX12_passes_65 : decode cX12_passes 65 = .ok (.iconst 1, 1) := by decide +kernel
theorem dX12_passes_66 : decode cX12_passes 66 = .ok (.iadd, 1) := by decide +kernel
theorem dX12_passes_67 : decode cX12_passes 67 = .ok (.iastore, 1) := by decide +kernel
theorem dX12_passes_68 : decode cX12_passes 68 = .ok (.return_, 1) := by decide +kernel
theorem dX12_letThrough_0 : decode cX12_letThrough 0 = .ok (.iconst 0, 1) := by decide +kernel
theorem dX12_letThrough_1 : decode cX12_letThrough 1 = .ok (.istore_n 2, 1) := by decide +kernel
theorem dX12_letThrough_2 : decode cX12_letThrough 2 = .ok (.iconst 0, 1) := by decide +kernel
theorem dX12_letThrough_3 : decode cX12_letThrough 3 = .ok (.istore_n 3, 1) := by decide +kernel
theorem dX12_letThrough_4 : decode cX12_letThrough 4 = .ok (.iload_n 3, 1) := by decide +kernel
theorem dX12_letThrough_5 : decode cX12_letThrough 5 = .ok (.aload_n 0, 1) := by decide +kernel
theorem dX12_letThrough_6 : decode cX12_letThrough 6 = .ok (.getfield 13, 3) := by decide +kernel
theorem dX12_letThrough_9 : decode cX12_letThrough 9 = .ok (.iconst 1, 1) := by decide +kernel
theorem dX12_letThrough_10 : decode cX12_letThrough 10 = .ok (.iaload, 1) := by decide +kernel
theorem dX12_letThrough_11 : decode cX12_letThrough 11 = .ok (.if_icmp .ge 36, 3) := by decide +kernel
theorem dX12_letThrough_14 : decode cX12_letThrough 14 = .ok (.iload_n 2, 1) := by decide +kernel
theorem dX12_letThrough_15 : decode cX12_letThrough 15 = .ok (.aload_n 0, 1) := by decide +kernel
theorem dX12_letThrough_16 : decode cX12_letThrough 16 = .ok (.iload_n 1, 1) := by decide +kernel
theorem dX12_letThrough_17 : decode cX12_letThrough 17 = .ok (.iload_n 3, 1) := by decide +kernel
theorem dX12_letThrough_18 : decode cX12_letThrough 18 = .ok (.aload_n 0, 1) := by decide +kernel
theorem dX12_letThrough_19 : decode cX12_letThrough 19 = .ok (.getfield 108, 3) := by decide +kernel
theorem dX12_letThrough_22 : decode cX12_letThrough 22 = .ok (.iconst 1, 1) := by decide +kernel
theorem dX12_letThrough_23 : decode cX12_letThrough 23 = .ok (.iload_n 3, 1) := by decide +kernel
theorem dX12_letThrough_24 : decode cX12_letThrough 24 = .ok (.iadd, 1) := by decide +kernel
theorem dX12_letThrough_25 : decode cX12_letThrough 25 = .ok (.iaload, 1) := by decide +kernel
theorem dX12_letThrough_26 : decode cX12_letThrough 26 = .ok (.invokevirtual 362, 3) := by decide +kernel
theorem dX12_letThrough_29 : decode cX12_letThrough 29 = .ok (.ifCond .eq 9, 3) := by decide +kernel
theorem dX12_letThrough_32 : decode cX12_letThrough 32 = .ok (.iconst 1, 1) := by decide +kernel
theorem dX12_letThrough_33 : decode cX12_letThrough 33 = .ok (.iload_n 3, 1) := by decide +kernel
theorem dX12_letThrough_34 : decode cX12_letThrough 34 = .ok (.ishl, 1) := by decide +kernel
theorem dX12_letThrough_35 : decode cX12_letThrough 35 = .ok (.goto 4, 3) := by decide +kernel
theorem dX12_letThrough_38 : decode cX12_letThrough 38 = .ok (.iconst 0, 1) := by decide +kernel
theorem dX12_letThrough_39 : decode cX12_letThrough 39 = .ok (.ior, 1) := by decide +kernel
theorem dX12_letThrough_40 : decode cX12_letThrough 40 = .ok (.istore_n 2, 1) := by decide +kernel
theorem dX12_letThrough_41 : decode cX12_letThrough 41 = .ok (.iinc 3 1, 3) := by decide +kernel
theorem dX12_letThrough_44 : decode cX12_letThrough 44 = .ok (.goto (-40), 3) := by decide +kernel
theorem dX12_letThrough_47 : decode cX12_letThrough 47 = .ok (.iload_n 2, 1) := by decide +kernel
theorem dX12_letThrough_48 : decode cX12_letThrough 48 = .ok (.ireturn, 1) := by decide +kernel
theorem dX12_allOf_0 : decode cX12_allOf 0 = .ok (.iconst 0, 1) := by decide +kernel
theorem dX12_allOf_1 : decode cX12_allOf 1 = .ok (.istore_n 2, 1) := by decide +kernel
theorem dX12_allOf_2 : decode cX12_allOf 2 = .ok (.iload_n 1, 1) := by decide +kernel
theorem dX12_allOf_3 : decode cX12_allOf 3 = .ok (.istore_n 3, 1) := by decide +kernel
theorem dX12_allOf_4 : decode cX12_allOf 4 = .ok (.iload_n 3, 1) := by decide +kernel
theorem dX12_allOf_5 : decode cX12_allOf 5 = .ok (.iload_n 1, 1) := by decide +kernel
theorem dX12_allOf_6 : decode cX12_allOf 6 = .ok (.bipush 6, 2) := by decide +kernel
theorem dX12_allOf_8 : decode cX12_allOf 8 = .ok (.iadd, 1) := by decide +kernel
theorem dX12_allOf_9 : decode cX12_allOf 9 = .ok (.if_icmp .ge 18, 3) := by decide +kernel
theorem dX12_allOf_12 : decode cX12_allOf 12 = .ok (.iload_n 2, 1) := by decide +kernel
theorem dX12_allOf_13 : decode cX12_allOf 13 = .ok (.aload_n 0, 1) := by decide +kernel
theorem dX12_allOf_14 : decode cX12_allOf 14 = .ok (.getfield 108, 3) := by decide +kernel
theorem dX12_allOf_17 : decode cX12_allOf 17 = .ok (.iload_n 3, 1) := by decide +kernel
theorem dX12_allOf_18 : decode cX12_allOf 18 = .ok (.iaload, 1) := by decide +kernel
theorem dX12_allOf_19 : decode cX12_allOf 19 = .ok (.iadd, 1) := by decide +kernel
theorem dX12_allOf_20 : decode cX12_allOf 20 = .ok (.istore_n 2, 1) := by decide +kernel
theorem dX12_allOf_21 : decode cX12_allOf 21 = .ok (.iinc 3 1, 3) := by decide +kernel
theorem dX12_allOf_24 : decode cX12_allOf 24 = .ok (.goto (-20), 3) := by decide +kernel
theorem dX12_allOf_27 : decode cX12_allOf 27 = .ok (.iload_n 2, 1) := by decide +kernel
theorem dX12_allOf_28 : decode cX12_allOf 28 = .ok (.ireturn, 1) := by decide +kernel
theorem dX12_peopled_0 : decode cX12_peopled 0 = .ok (.iconst 0, 1) := by decide +kernel
theorem dX12_peopled_1 : decode cX12_peopled 1 = .ok (.istore_n 1, 1) := by decide +kernel
theorem dX12_peopled_2 : decode cX12_peopled 2 = .ok (.iconst 0, 1) := by decide +kernel
theorem dX12_peopled_3 : decode cX12_peopled 3 = .ok (.istore_n 2, 1) := by decide +kernel
theorem dX12_peopled_4 : decode cX12_peopled 4 = .ok (.iload_n 2, 1) := by decide +kernel
theorem dX12_peopled_5 : decode cX12_peopled 5 = .ok (.aload_n 0, 1) := by decide +kernel
theorem dX12_peopled_6 : decode cX12_peopled 6 = .ok (.getfield 13, 3) := by decide +kernel
theorem dX12_peopled_9 : decode cX12_peopled 9 = .ok (.iconst 1, 1) := by decide +kernel
theorem dX12_peopled_10 : decode cX12_peopled 10 = .ok (.iaload, 1) := by decide +kernel
theorem dX12_peopled_11 : decode cX12_peopled 11 = .ok (.if_icmp .ge 22, 3) := by decide +kernel
theorem dX12_peopled_14 : decode cX12_peopled 14 = .ok (.iload_n 1, 1) := by decide +kernel
theorem dX12_peopled_15 : decode cX12_peopled 15 = .ok (.iconst 1, 1) := by decide +kernel
theorem dX12_peopled_16 : decode cX12_peopled 16 = .ok (.aload_n 0, 1) := by decide +kernel
theorem dX12_peopled_17 : decode cX12_peopled 17 = .ok (.getfield 108, 3) := by decide +kernel
theorem dX12_peopled_20 : decode cX12_peopled 20 = .ok (.iconst 1, 1) := by decide +kernel
theorem dX12_peopled_21 : decode cX12_peopled 21 = .ok (.iload_n 2, 1) := by decide +kernel
theorem dX12_peopled_22 : decode cX12_peopled 22 = .ok (.iadd, 1) := by decide +kernel
theorem dX12_peopled_23 : decode cX12_peopled 23 = .ok (.iaload, 1) := by decide +kernel
theorem dX12_peopled_24 : decode cX12_peopled 24 = .ok (.ishl, 1) := by decide +kernel
theorem dX12_peopled_25 : decode cX12_peopled 25 = .ok (.ior, 1) := by decide +kernel
theorem dX12_peopled_26 : decode cX12_peopled 26 = .ok (.istore_n 1, 1) := by decide +kernel
theorem dX12_peopled_27 : decode cX12_peopled 27 = .ok (.iinc 2 1, 3) := by decide +kernel
theorem dX12_peopled_30 : decode cX12_peopled 30 = .ok (.goto (-26), 3) := by decide +kernel
theorem dX12_peopled_33 : decode cX12_peopled 33 = .ok (.iload_n 1, 1) := by decide +kernel
theorem dX12_peopled_34 : decode cX12_peopled 34 = .ok (.ireturn, 1) := by decide +kernel
theorem dX12_person_0 : decode cX12_person 0 = .ok (.aload_n 0, 1) := by decide +kernel
theorem dX12_person_1 : decode cX12_person 1 = .ok (.iconst 0, 1) := by decide +kernel
theorem dX12_person_2 : decode cX12_person 2 = .ok (.putfield 129, 3) := by decide +kernel
theorem dX12_person_5 : decode cX12_person 5 = .ok (.aload_n 0, 1) := by decide +kernel
theorem dX12_person_6 : decode cX12_person 6 = .ok (.iload_n 1, 1) := by decide +kernel
theorem dX12_person_7 : decode cX12_person 7 = .ok (.invokevirtual 370, 3) := by decide +kernel
theorem dX12_person_10 : decode cX12_person 10 = .ok (.ifCond .eq 12, 3) := by decide +kernel
theorem dX12_person_13 : decode cX12_person 13 = .ok (.iload_n 2, 1) := by decide +kernel
theorem dX12_person_14 : decode cX12_person 14 = .ok (.iconst 0, 1) := by decide +kernel
theorem dX12_person_15 : decode cX12_person 15 = .ok (.iconst 5, 1) := by decide +kernel
theorem dX12_person_16 : decode cX12_person 16 = .ok (.invokestatic 252, 3) := by decide +kernel
theorem dX12_person_19 : decode cX12_person 19 = .ok (.ifCond .ne 5, 3) := by decide +kernel
theorem dX12_person_22 : decode cX12_person 22 = .ok (.iconst (-1), 1) := by decide +kernel
theorem dX12_person_23 : decode cX12_person 23 = .ok (.ireturn, 1) := by decide +kernel
theorem dX12_person_24 : decode cX12_person 24 = .ok (.iload_n 2, 1) := by decide +kernel
theorem dX12_person_25 : decode cX12_person 25 = .ok (.iconst 2, 1) := by decide +kernel
theorem dX12_person_26 : decode cX12_person 26 = .ok (.if_icmp .ge 25, 3) := by decide +kernel
theorem dX12_person_29 : decode cX12_person 29 = .ok (.iload_n 2, 1) := by decide +kernel
theorem dX12_person_30 : decode cX12_person 30 = .ok (.ifCond .ne 12, 3) := by decide +kernel
theorem dX12_person_33 : decode cX12_person 33 = .ok (.aload_n 0, 1) := by decide +kernel
theorem dX12_person_34 : decode cX12_person 34 = .ok (.getfield 29, 3) := by decide +kernel
theorem dX12_person_37 : decode cX12_person 37 = .ok (.iload_n 1, 1) := by decide +kernel
theorem dX12_person_38 : decode cX12_person 38 = .ok (.iaload, 1) := by decide +kernel
theorem dX12_person_39 : decode cX12_person 39 = .ok (.goto 11, 3) := by decide +kernel
theorem dX12_person_42 : decode cX12_person 42 = .ok (.aload_n 0, 1) := by decide +kernel
theorem dX12_person_43 : decode cX12_person 43 = .ok (.getfield 108, 3) := by decide +kernel
theorem dX12_person_46 : decode cX12_person 46 = .ok (.iconst 1, 1) := by decide +kernel
theorem dX12_person_47 : decode cX12_person 47 = .ok (.iload_n 1, 1) := by decide +kernel
theorem dX12_person_48 : decode cX12_person 48 = .ok (.iadd, 1) := by decide +kernel
theorem dX12_person_49 : decode cX12_person 49 = .ok (.iaload, 1) := by decide +kernel
theorem dX12_person_50 : decode cX12_person 50 = .ok (.ireturn, 1) := by decide +kernel
theorem dX12_person_51 : decode cX12_person 51 = .ok (.iload_n 2, 1) := by decide +kernel
theorem dX12_person_52 : decode cX12_person 52 = .ok (.iconst 4, 1) := by decide +kernel
theorem dX12_person_53 : decode cX12_person 53 = .ok (.if_icmp .ge 40, 3) := by decide +kernel
theorem dX12_person_56 : decode cX12_person 56 = .ok (.iload_n 2, 1) := by decide +kernel
theorem dX12_person_57 : decode cX12_person 57 = .ok (.iconst 2, 1) := by decide +kernel
theorem dX12_person_58 : decode cX12_person 58 = .ok (.if_icmp .ne 25, 3) := by decide +kernel
theorem dX12_person_61 : decode cX12_person 61 = .ok (.aload_n 0, 1) := by decide +kernel
theorem dX12_person_62 : decode cX12_person 62 = .ok (.getfield 108, 3) := by decide +kernel
theorem dX12_person_65 : decode cX12_person 65 = .ok (.bipush 7, 2) := by decide +kernel
theorem dX12_person_67 : decode cX12_person 67 = .ok (.iload_n 1, 1) := by decide +kernel
theorem dX12_person_68 : decode cX12_person 68 = .ok (.iadd, 1) := by decide +kernel
theorem dX12_person_69 : decode cX12_person 69 = .ok (.iaload, 1) := by decide +kernel
theorem dX12_person_70 : decode cX12_person 70 = .ok (.aload_n 0, 1) := by decide +kernel
theorem dX12_person_71 : decode cX12_person 71 = .ok (.getfield 108, 3) := by decide +kernel
theorem dX12_person_74 : decode cX12_person 74 = .ok (.bipush 13, 2) := by decide +kernel
theorem dX12_person_76 : decode cX12_person 76 = .ok (.iload_n 1, 1) := by decide +kernel
theorem dX12_person_77 : decode cX12_person 77 = .ok (.iadd, 1) := by decide +kernel
theorem dX12_person_78 : decode cX12_person 78 = .ok (.iaload, 1) := by decide +kernel
theorem dX12_person_79 : decode cX12_person 79 = .ok (.iadd, 1) := by decide +kernel
theorem dX12_person_80 : decode cX12_person 80 = .ok (.goto 12, 3) := by decide +kernel
theorem dX12_person_83 : decode cX12_person 83 = .ok (.aload_n 0, 1) := by decide +kernel
theorem dX12_person_84 : decode cX12_person 84 = .ok (.getfield 108, 3) := by decide +kernel
theorem dX12_person_87 : decode cX12_person 87 = .ok (.bipush 13, 2) := by decide +kernel
theorem dX12_person_89 : decode cX12_person 89 = .ok (.iload_n 1, 1) := by decide +kernel
theorem dX12_person_90 : decode cX12_person 90 = .ok (.iadd, 1) := by decide +kernel
theorem dX12_person_91 : decode cX12_person 91 = .ok (.iaload, 1) := by decide +kernel
theorem dX12_person_92 : decode cX12_person 92 = .ok (.ireturn, 1) := by decide +kernel
theorem dX12_person_93 : decode cX12_person 93 = .ok (.iload_n 2, 1) := by decide +kernel
theorem dX12_person_94 : decode cX12_person 94 = .ok (.iconst 4, 1) := by decide +kernel
theorem dX12_person_95 : decode cX12_person 95 = .ok (.if_icmp .ne 15, 3) := by decide +kernel
theorem dX12_person_98 : decode cX12_person 98 = .ok (.aload_n 0, 1) := by decide +kernel
theorem dX12_person_99 : decode cX12_person 99 = .ok (.getfield 108, 3) := by decide +kernel
theorem dX12_person_102 : decode cX12_person 102 = .ok (.bipush 19, 2) := by decide +kernel
theorem dX12_person_104 : decode cX12_person 104 = .ok (.iload_n 1, 1) := by decide +kernel
theorem dX12_person_105 : decode cX12_person 105 = .ok (.iadd, 1) := by decide +kernel
theorem dX12_person_106 : decode cX12_person 106 = .ok (.iaload, 1) := by decide +kernel
theorem dX12_person_107 : decode cX12_person 107 = .ok (.goto 12, 3) := by decide +kernel
theorem dX12_person_110 : decode cX12_person 110 = .ok (.aload_n 0, 1) := by decide +kernel
theorem dX12_person_111 : decode cX12_person 111 = .ok (.getfield 108, 3) := by decide +kernel
theorem dX12_person_114 : decode cX12_person 114 = .ok (.bipush 25, 2) := by decide +kernel
theorem dX12_person_116 : decode cX12_person 116 = .ok (.iload_n 1, 1) := by decide +kernel
theorem dX12_person_117 : decode cX12_person 117 = .ok (.iadd, 1) := by decide +kernel
theorem dX12_person_118 : decode cX12_person 118 = .ok (.iaload, 1) := by decide +kernel
theorem dX12_person_119 : decode cX12_person 119 = .ok (.ireturn, 1) := by decide +kernel
theorem dX12_town_0 : decode cX12_town 0 = .ok (.aload_n 0, 1) := by decide +kernel
theorem dX12_town_1 : decode cX12_town 1 = .ok (.iconst 0, 1) := by decide +kernel
theorem dX12_town_2 : decode cX12_town 2 = .ok (.putfield 129, 3) := by decide +kernel
theorem dX12_town_5 : decode cX12_town 5 = .ok (.aload_n 0, 1) := by decide +kernel
theorem dX12_town_6 : decode cX12_town 6 = .ok (.iload_n 1, 1) := by decide +kernel
theorem dX12_town_7 : decode cX12_town 7 = .ok (.invokevirtual 373, 3) := by decide +kernel
theorem dX12_town_10 : decode cX12_town 10 = .ok (.ifCond .eq 12, 3) := by decide +kernel
theorem dX12_town_13 : decode cX12_town 13 = .ok (.iload_n 2, 1) := by decide +kernel
theorem dX12_town_14 : decode cX12_town 14 = .ok (.iconst 0, 1) := by decide +kernel
theorem dX12_town_15 : decode cX12_town 15 = .ok (.iconst 2, 1) := by decide +kernel
theorem dX12_town_16 : decode cX12_town 16 = .ok (.invokestatic 252, 3) := by decide +kernel
theorem dX12_town_19 : decode cX12_town 19 = .ok (.ifCond .ne 5, 3) := by decide +kernel
theorem dX12_town_22 : decode cX12_town 22 = .ok (.iconst (-1), 1) := by decide +kernel
theorem dX12_town_23 : decode cX12_town 23 = .ok (.ireturn, 1) := by decide +kernel
theorem dX12_town_24 : decode cX12_town 24 = .ok (.iload_n 2, 1) := by decide +kernel
theorem dX12_town_25 : decode cX12_town 25 = .ok (.ifCond .ne 12, 3) := by decide +kernel
theorem dX12_town_28 : decode cX12_town 28 = .ok (.aload_n 0, 1) := by decide +kernel
theorem dX12_town_29 : decode cX12_town 29 = .ok (.getfield 23, 3) := by decide +kernel
theorem dX12_town_32 : decode cX12_town 32 = .ok (.iload_n 1, 1) := by decide +kernel
