theorem dX12_letsHim_0 : decode cX12_letsHim 0 = .ok (.aload_n 0, 1) := by decide +kernel
theorem dX12_letsHim_1 : decode cX12_letsHim 1 = .ok (.getfield 29, 3) := by decide +kernel
theorem dX12_letsHim_4 : decode cX12_letsHim 4 = .ok (.iload_n 2, 1) := by decide +kernel
theorem dX12_letsHim_5 : decode cX12_letsHim 5 = .ok (.iaload, 1) := by decide +kernel
theorem dX12_letsHim_6 : decode cX12_letsHim 6 = .ok (.iconst 2, 1) := by decide +kernel
theorem dX12_letsHim_7 : decode cX12_letsHim 7 = .ok (.if_icmp .ne 5, 3) := by decide +kernel
theorem dX12_letsHim_10 : decode cX12_letsHim 10 = .ok (.iconst 1, 1) := by decide +kernel
theorem dX12_letsHim_11 : decode cX12_letsHim 11 = .ok (.ireturn, 1) := by decide +kernel
theorem dX12_letsHim_12 : decode cX12_letsHim 12 = .ok (.aload_n 0, 1) := by decide +kernel
theorem dX12_letsHim_13 : decode cX12_letsHim 13 = .ok (.getfield 23, 3) := by decide +kernel
theorem dX12_letsHim_16 : decode cX12_letsHim 16 = .ok (.iload_n 1, 1) := by decide +kernel
theorem dX12_letsHim_17 : decode cX12_letsHim 17 = .ok (.iaload, 1) := by decide +kernel
theorem dX12_letsHim_18 : decode cX12_letsHim 18 = .ok (.aload_n 0, 1) := by decide +kernel
theorem dX12_letsHim_19 : decode cX12_letsHim 19 = .ok (.getfield 349, 3) := by decide +kernel
theorem dX12_letsHim_22 : decode cX12_letsHim 22 = .ok (.iadd, 1) := by decide +kernel
theorem dX12_letsHim_23 : decode cX12_letsHim 23 = .ok (.istore_n 3, 1) := by decide +kernel
theorem dX12_letsHim_24 : decode cX12_letsHim 24 = .ok (.aload_n 0, 1) := by decide +kernel
theorem dX12_letsHim_25 : decode cX12_letsHim 25 = .ok (.aload_n 0, 1) := by decide +kernel
theorem dX12_letsHim_26 : decode cX12_letsHim 26 = .ok (.getfield 108, 3) := by decide +kernel
theorem dX12_letsHim_29 : decode cX12_letsHim 29 = .ok (.bipush 7, 2) := by decide +kernel
theorem dX12_letsHim_31 : decode cX12_letsHim 31 = .ok (.iload_n 2, 1) := by decide +kernel
theorem dX12_letsHim_32 : decode cX12_letsHim 32 = .ok (.iadd, 1) := by decide +kernel
theorem dX12_letsHim_33 : decode cX12_letsHim 33 = .ok (.iaload, 1) := by decide +kernel
theorem dX12_letsHim_34 : decode cX12_letsHim 34 = .ok (.aload_n 0, 1) := by decide +kernel
theorem dX12_letsHim_35 : decode cX12_letsHim 35 = .ok (.getfield 108, 3) := by decide +kernel
theorem dX12_letsHim_38 : decode cX12_letsHim 38 = .ok (.bipush 13, 2) := by decide +kernel
theorem dX12_letsHim_40 : decode cX12_letsHim 40 = .ok (.iload_n 2, 1) := by decide +kernel
theorem dX12_letsHim_41 : decode cX12_letsHim 41 = .ok (.iadd, 1) := by decide +kernel
theorem dX12_letsHim_42 : decode cX12_letsHim 42 = .ok (.iaload, 1) := by decide +kernel
theorem dX12_letsHim_43 : decode cX12_letsHim 43 = .ok (.iadd, 1) := by decide +kernel
theorem dX12_letsHim_44 : decode cX12_letsHim 44 = .ok (.aload_n 0, 1) := by decide +kernel
theorem dX12_letsHim_45 : decode cX12_letsHim 45 = .ok (.getfield 108, 3) := by decide +kernel
theorem dX12_letsHim_48 : decode cX12_letsHim 48 = .ok (.bipush 13, 2) := by decide +kernel
theorem dX12_letsHim_50 : decode cX12_letsHim 50 = .ok (.iload_n 2, 1) := by decide +kernel
theorem dX12_letsHim_51 : decode cX12_letsHim 51 = .ok (.iadd, 1) := by decide +kernel
theorem dX12_letsHim_52 : decode cX12_letsHim 52 = .ok (.iaload, 1) := by decide +kernel
theorem dX12_letsHim_53 : decode cX12_letsHim 53 = .ok (.aload_n 0, 1) := by decide +kernel
theorem dX12_letsHim_54 : decode cX12_letsHim 54 = .ok (.getfield 29, 3) := by decide +kernel
theorem dX12_letsHim_57 : decode cX12_letsHim 57 = .ok (.iload_n 2, 1) := by decide +kernel
theorem dX12_letsHim_58 : decode cX12_letsHim 58 = .ok (.iaload, 1) := by decide +kernel
theorem dX12_letsHim_59 : decode cX12_letsHim 59 = .ok (.iconst 3, 1) := by decide +kernel
theorem dX12_letsHim_60 : decode cX12_letsHim 60 = .ok (.if_icmp .ne 9, 3) := by decide +kernel
theorem dX12_letsHim_63 : decode cX12_letsHim 63 = .ok (.iload_n 3, 1) := by decide +kernel
theorem dX12_letsHim_64 : decode cX12_letsHim 64 = .ok (.iconst 2, 1) := by decide +kernel
theorem dX12_letsHim_65 : decode cX12_letsHim 65 = .ok (.idiv, 1) := by decide +kernel
theorem dX12_letsHim_66 : decode cX12_letsHim 66 = .ok (.goto 4, 3) := by decide +kernel
theorem dX12_letsHim_69 : decode cX12_letsHim 69 = .ok (.iload_n 3, 1) := by decide +kernel
theorem dX12_letsHim_70 : decode cX12_letsHim 70 = .ok (.invokevirtual 352, 3) := by decide +kernel
theorem dX12_letsHim_73 : decode cX12_letsHim 73 = .ok (.ireturn, 1) := by decide +kernel
theorem dX12_speakersAt_0 : decode cX12_speakersAt 0 = .ok (.iconst 0, 1) := by decide +kernel
theorem dX12_speakersAt_1 : decode cX12_speakersAt 1 = .ok (.istore_n 3, 1) := by decide +kernel
theorem dX12_speakersAt_2 : decode cX12_speakersAt 2 = .ok (.iconst 0, 1) := by decide +kernel
theorem dX12_speakersAt_3 : decode cX12_speakersAt 3 = .ok (.istore 4, 2) := by decide +kernel
theorem dX12_speakersAt_5 : decode cX12_speakersAt 5 = .ok (.iload 4, 2) := by decide +kernel
theorem dX12_speakersAt_7 : decode cX12_speakersAt 7 = .ok (.aload_n 0, 1) := by decide +kernel
theorem dX12_speakersAt_8 : decode cX12_speakersAt 8 = .ok (.getfield 13, 3) := by decide +kernel
theorem dX12_speakersAt_11 : decode cX12_speakersAt 11 = .ok (.iconst 1, 1) := by decide +kernel
theorem dX12_speakersAt_12 : decode cX12_speakersAt 12 = .ok (.iaload, 1) := by decide +kernel
theorem dX12_speakersAt_13 : decode cX12_speakersAt 13 = .ok (.if_icmp .ge 54, 3) := by decide +kernel
theorem dX12_speakersAt_16 : decode cX12_speakersAt 16 = .ok (.iload_n 3, 1) := by decide +kernel
theorem dX12_speakersAt_17 : decode cX12_speakersAt 17 = .ok (.aload_n 0, 1) := by decide +kernel
theorem dX12_speakersAt_18 : decode cX12_speakersAt 18 = .ok (.getfield 29, 3) := by decide +kernel
theorem dX12_speakersAt_21 : decode cX12_speakersAt 21 = .ok (.iload 4, 2) := by decide +kernel
theorem dX12_speakersAt_23 : decode cX12_speakersAt 23 = .ok (.iaload, 1) := by decide +kernel
theorem dX12_speakersAt_24 : decode cX12_speakersAt 24 = .ok (.iconst 1, 1) := by decide +kernel
theorem dX12_speakersAt_25 : decode cX12_speakersAt 25 = .ok (.if_icmp .eq 33, 3) := by decide +kernel
theorem dX12_speakersAt_28 : decode cX12_speakersAt 28 = .ok (.aload_n 0, 1) := by decide +kernel
theorem dX12_speakersAt_29 : decode cX12_speakersAt 29 = .ok (.getfield 108, 3) := by decide +kernel
theorem dX12_speakersAt_32 : decode cX12_speakersAt 32 = .ok (.iconst 1, 1) := by decide +kernel
theorem dX12_speakersAt_33 : decode cX12_speakersAt 33 = .ok (.iload 4, 2) := by decide +kernel
theorem dX12_speakersAt_35 : decode cX12_speakersAt 35 = .ok (.iadd, 1) := by decide +kernel
theorem dX12_speakersAt_36 : decode cX12_speakersAt 36 = .ok (.iaload, 1) := by decide +kernel
theorem dX12_speakersAt_37 : decode cX12_speakersAt 37 = .ok (.iload_n 1, 1) := by decide +kernel
theorem dX12_speakersAt_38 : decode cX12_speakersAt 38 = .ok (.if_icmp .ne 20, 3) := by decide +kernel
theorem dX12_speakersAt_41 : decode cX12_speakersAt 41 = .ok (.aload_n 0, 1) := by decide +kernel
theorem dX12_speakersAt_42 : decode cX12_speakersAt 42 = .ok (.iload_n 2, 1) := by decide +kernel
theorem dX12_speakersAt_43 : decode cX12_speakersAt 43 = .ok (.iload 4, 2) := by decide +kernel
theorem dX12_speakersAt_45 : decode cX12_speakersAt 45 = .ok (.invokevirtual 355, 3) := by decide +kernel
theorem dX12_speakersAt_48 : decode cX12_speakersAt 48 = .ok (.ifCond .eq 10, 3) := by decide +kernel
theorem dX12_speakersAt_51 : decode cX12_speakersAt 51 = .ok (.iconst 1, 1) := by decide +kernel
theorem dX12_speakersAt_52 : decode cX12_speakersAt 52 = .ok (.iload 4, 2) := by decide +kernel
theorem dX12_speakersAt_54 : decode cX12_speakersAt 54 = .ok (.ishl, 1) := by decide +kernel
theorem dX12_speakersAt_55 : decode cX12_speakersAt 55 = .ok (.goto 4, 3) := by decide +kernel
theorem dX12_speakersAt_58 : decode cX12_speakersAt 58 = .ok (.iconst 0, 1) := by decide +kernel
theorem dX12_speakersAt_59 : decode cX12_speakersAt 59 = .ok (.ior, 1) := by decide +kernel
theorem dX12_speakersAt_60 : decode cX12_speakersAt 60 = .ok (.istore_n 3, 1) := by decide +kernel
theorem dX12_speakersAt_61 : decode cX12_speakersAt 61 = .ok (.iinc 4 1, 3) := by decide +kernel
theorem dX12_speakersAt_64 : decode cX12_speakersAt 64 = .ok (.goto (-59), 3) := by decide +kernel
theorem dX12_speakersAt_67 : decode cX12_speakersAt 67 = .ok (.iload_n 3, 1) := by decide +kernel
theorem dX12_speakersAt_68 : decode cX12_speakersAt 68 = .ok (.ireturn, 1) := by decide +kernel
theorem dX12_lets_0 : decode cX12_lets 0 = .ok (.aload_n 0, 1) := by decide +kernel
theorem dX12_lets_1 : decode cX12_lets 1 = .ok (.getfield 29, 3) := by decide +kernel
theorem dX12_lets_4 : decode cX12_lets 4 = .ok (.iload_n 2, 1) := by decide +kernel
theorem dX12_lets_5 : decode cX12_lets 5 = .ok (.iaload, 1) := by decide +kernel
theorem dX12_lets_6 : decode cX12_lets 6 = .ok (.iconst 1, 1) := by decide +kernel
theorem dX12_lets_7 : decode cX12_lets 7 = .ok (.if_icmp .ne 20, 3) := by decide +kernel
theorem dX12_lets_10 : decode cX12_lets 10 = .ok (.aload_n 0, 1) := by decide +kernel
theorem dX12_lets_11 : decode cX12_lets 11 = .ok (.iload_n 3, 1) := by decide +kernel
theorem dX12_lets_12 : decode cX12_lets 12 = .ok (.iload_n 1, 1) := by decide +kernel
theorem dX12_lets_13 : decode cX12_lets 13 = .ok (.invokevirtual 358, 3) := by decide +kernel
theorem dX12_lets_16 : decode cX12_lets 16 = .ok (.ifCond .eq 7, 3) := by decide +kernel
theorem dX12_lets_19 : decode cX12_lets 19 = .ok (.iconst 1, 1) := by decide +kernel
theorem dX12_lets_20 : decode cX12_lets 20 = .ok (.goto 13, 3) := by decide +kernel
theorem dX12_lets_23 : decode cX12_lets 23 = .ok (.iconst 0, 1) := by decide +kernel
theorem dX12_lets_24 : decode cX12_lets 24 = .ok (.goto 9, 3) := by decide +kernel
theorem dX12_lets_27 : decode cX12_lets 27 = .ok (.aload_n 0, 1) := by decide +kernel
theorem dX12_lets_28 : decode cX12_lets 28 = .ok (.iload_n 1, 1) := by decide +kernel
theorem dX12_lets_29 : decode cX12_lets 29 = .ok (.iload_n 2, 1) := by decide +kernel
theorem dX12_lets_30 : decode cX12_lets 30 = .ok (.invokevirtual 355, 3) := by decide +kernel
theorem dX12_lets_33 : decode cX12_lets 33 = .ok (.ireturn, 1) := by decide +kernel
theorem dX12_canGo_0 : decode cX12_canGo 0 = .ok (.aload_n 0, 1) := by decide +kernel
theorem dX12_canGo_1 : decode cX12_canGo 1 = .ok (.getfield 26, 3) := by decide +kernel
theorem dX12_canGo_4 : decode cX12_canGo 4 = .ok (.aload_n 0, 1) := by decide +kernel
theorem dX12_canGo_5 : decode cX12_canGo 5 = .ok (.getfield 108, 3) := by decide +kernel
theorem dX12_canGo_8 : decode cX12_canGo 8 = .ok (.iconst 1, 1) := by decide +kernel
theorem dX12_canGo_9 : decode cX12_canGo 9 = .ok (.iload_n 1, 1) := by decide +kernel
theorem dX12_canGo_10 : decode cX12_canGo 10 = .ok (.iadd, 1) := by decide +kernel
theorem dX12_canGo_11 : decode cX12_canGo 11 = .ok (.iaload, 1) := by decide +kernel
theorem dX12_canGo_12 : decode cX12_canGo 12 = .ok (.iaload, 1) := by decide +kernel
theorem dX12_canGo_13 : decode cX12_canGo 13 = .ok (.iload_n 2, 1) := by decide +kernel
theorem dX12_canGo_14 : decode cX12_canGo 14 = .ok (.ishr, 1) := by decide +kernel
theorem dX12_canGo_15 : decode cX12_canGo 15 = .ok (.iconst 1, 1) := by decide +kernel
theorem dX12_canGo_16 : decode cX12_canGo 16 = .ok (.iand, 1) := by decide +kernel
theorem dX12_canGo_17 : decode cX12_canGo 17 = .ok (.iconst 1, 1) := by decide +kernel
theorem dX12_canGo_18 : decode cX12_canGo 18 = .ok (.if_icmp .ne 24, 3) := by decide +kernel
theorem dX12_canGo_21 : decode cX12_canGo 21 = .ok (.aload_n 0, 1) := by decide +kernel
theorem dX12_canGo_22 : decode cX12_canGo 22 = .ok (.iload_n 2, 1) := by decide +kernel
theorem dX12_canGo_23 : decode cX12_canGo 23 = .ok (.iload_n 1, 1) := by decide +kernel
theorem dX12_canGo_24 : decode cX12_canGo 24 = .ok (.aload_n 0, 1) := by decide +kernel
theorem dX12_canGo_25 : decode cX12_canGo 25 = .ok (.getfield 108, 3) := by decide +kernel
theorem dX12_canGo_28 : decode cX12_canGo 28 = .ok (.iconst 1, 1) := by decide +kernel
theorem dX12_canGo_29 : decode cX12_canGo 29 = .ok (.iload_n 1, 1) := by decide +kernel
theorem dX12_canGo_30 : decode cX12_canGo 30 = .ok (.iadd, 1) := by decide +kernel
theorem dX12_canGo_31 : decode cX12_canGo 31 = .ok (.iaload, 1) := by decide +kernel
theorem dX12_canGo_32 : decode cX12_canGo 32 = .ok (.invokevirtual 362, 3) := by decide +kernel
theorem dX12_canGo_35 : decode cX12_canGo 35 = .ok (.ifCond .eq 7, 3) := by decide +kernel
theorem dX12_canGo_38 : decode cX12_canGo 38 = .ok (.iconst 1, 1) := by decide +kernel
theorem dX12_canGo_39 : decode cX12_canGo 39 = .ok (.goto 4, 3) := by decide +kernel
theorem dX12_canGo_42 : decode cX12_canGo 42 = .ok (.iconst 0, 1) := by decide +kernel
theorem dX12_canGo_43 : decode cX12_canGo 43 = .ok (.ireturn, 1) := by decide +kernel
theorem dX12_goes_0 : decode cX12_goes 0 = .ok (.aload_n 0, 1) := by decide +kernel
theorem dX12_goes_1 : decode cX12_goes 1 = .ok (.getfield 108, 3) := by decide +kernel
theorem dX12_goes_4 : decode cX12_goes 4 = .ok (.iconst 1, 1) := by decide +kernel
theorem dX12_goes_5 : decode cX12_goes 5 = .ok (.iload_n 1, 1) := by decide +kernel
theorem dX12_goes_6 : decode cX12_goes 6 = .ok (.iadd, 1) := by decide +kernel
theorem dX12_goes_7 : decode cX12_goes 7 = .ok (.iload_n 2, 1) := by decide +kernel
theorem dX12_goes_8 : decode cX12_goes 8 = .ok (.iastore, 1) := by decide +kernel
theorem dX12_goes_9 : decode cX12_goes 9 = .ok (.aload_n 0, 1) := by decide +kernel
theorem dX12_goes_10 : decode cX12_goes 10 = .ok (.getfield 108, 3) := by decide +kernel
theorem dX12_goes_13 : decode cX12_goes 13 = .ok (.bipush 25, 2) := by decide +kernel
theorem dX12_goes_15 : decode cX12_goes 15 = .ok (.iload_n 1, 1) := by decide +kernel
theorem dX12_goes_16 : decode cX12_goes 16 = .ok (.iadd, 1) := by decide +kernel
theorem dX12_goes_17 : decode cX12_goes 17 = .ok (.dup2, 1) := by decide +kernel
theorem dX12_goes_18 : decode cX12_goes 18 = .ok (.iaload, 1) := by decide +kernel
theorem dX12_goes_19 : decode cX12_goes 19 = .ok (.iconst 1, 1) := by decide +kernel
theorem dX12_goes_20 : decode cX12_goes 20 = .ok (.iload_n 2, 1) := by decide +kernel
theorem dX12_goes_21 : decode cX12_goes 21 = .ok (.ishl, 1) := by decide +kernel
theorem dX12_goes_22 : decode cX12_goes 22 = .ok (.ior, 1) := by decide +kernel
theorem dX12_goes_23 : decode cX12_goes 23 = .ok (.iastore, 1) := by decide +kernel
theorem dX12_goes_24 : decode cX12_goes 24 = .ok (.return_, 1) := by decide +kernel
theorem dX12_canForge_0 : decode cX12_canForge 0 = .ok (.aload_n 0, 1) := by decide +kernel
theorem dX12_canForge_1 : decode cX12_canForge 1 = .ok (.getfield 29, 3) := by decide +kernel
theorem dX12_canForge_4 : decode cX12_canForge 4 = .ok (.iload_n 1, 1) := by decide +kernel
theorem dX12_canForge_5 : decode cX12_canForge 5 = .ok (.iaload, 1) := by decide +kernel
theorem dX12_canForge_6 : decode cX12_canForge 6 = .ok (.iconst 1, 1) := by decide +kernel
theorem dX12_canForge_7 : decode cX12_canForge 7 = .ok (.if_icmp .eq 43, 3) := by decide +kernel
theorem dX12_canForge_10 : decode cX12_canForge 10 = .ok (.aload_n 0, 1) := by decide +kernel
theorem dX12_canForge_11 : decode cX12_canForge 11 = .ok (.getfield 108, 3) := by decide +kernel
theorem dX12_canForge_14 : decode cX12_canForge 14 = .ok (.bipush 19, 2) := by decide +kernel
theorem dX12_canForge_16 : decode cX12_canForge 16 = .ok (.iload_n 1, 1) := by decide +kernel
theorem dX12_canForge_17 : decode cX12_canForge 17 = .ok (.iadd, 1) := by decide +kernel
theorem dX12_canForge_18 : decode cX12_canForge 18 = .ok (.iaload, 1) := by decide +kernel
theorem dX12_canForge_19 : decode cX12_canForge 19 = .ok (.iload_n 2, 1) := by decide +kernel
theorem dX12_canForge_20 : decode cX12_canForge 20 = .ok (.aload_n 0, 1) := by decide +kernel
theorem dX12_canForge_21 : decode cX12_canForge 21 = .ok (.getfield 13, 3) := by decide +kernel
theorem dX12_canForge_24 : decode cX12_canForge 24 = .ok (.iconst 3, 1) := by decide +kernel
theorem dX12_canForge_25 : decode cX12_canForge 25 = .ok (.iaload, 1) := by decide +kernel
theorem dX12_canForge_26 : decode cX12_canForge 26 = .ok (.imul, 1) := by decide +kernel
theorem dX12_canForge_27 : decode cX12_canForge 27 = .ok (.if_icmp .lt 23, 3) := by decide +kernel
theorem dX12_canForge_30 : decode cX12_canForge 30 = .ok (.aload_n 0, 1) := by decide +kernel
theorem dX12_canForge_31 : decode cX12_canForge 31 = .ok (.getfield 108, 3) := by decide +kernel
theorem dX12_canForge_34 : decode cX12_canForge 34 = .ok (.bipush 13, 2) := by decide +kernel
theorem dX12_canForge_36 : decode cX12_canForge 36 = .ok (.iload_n 1, 1) := by decide +kernel
theorem dX12_canForge_37 : decode cX12_canForge 37 = .ok (.iadd, 1) := by decide +kernel
theorem dX12_canForge_38 : decode cX12_canForge 38 = .ok (.iaload, 1) := by decide +kernel
theorem dX12_canForge_39 : decode cX12_canForge 39 = .ok (.iload_n 2, 1) := by decide +kernel
theorem dX12_canForge_40 : decode cX12_canForge 40 = .ok (.iadd, 1) := by decide +kernel
theorem dX12_canForge_41 : decode cX12_canForge 41 = .ok (.bipush 20, 2) := by decide +kernel
theorem dX12_canForge_43 : decode cX12_canForge 43 = .ok (.if_icmp .gt 7, 3) := by decide +kernel
theorem dX12_canForge_46 : decode cX12_canForge 46 = .ok (.iconst 1, 1) := by decide +kernel
theorem dX12_canForge_47 : decode cX12_canForge 47 = .ok (.goto 4, 3) := by decide +kernel
theorem dX12_canForge_50 : decode cX12_canForge 50 = .ok (.iconst 0, 1) := by decide +kernel
theorem dX12_canForge_51 : decode cX12_canForge 51 = .ok (.ireturn, 1) := by decide +kernel
theorem dX12_forges_0 : decode cX12_forges 0 = .ok (.aload_n 0, 1) := by decide +kernel
theorem dX12_forges_1 : decode cX12_forges 1 = .ok (.getfield 108, 3) := by decide +kernel
theorem dX12_forges_4 : decode cX12_forges 4 = .ok (.bipush 19, 2) := by decide +kernel
theorem dX12_forges_6 : decode cX12_forges 6 = .ok (.iload_n 1, 1) := by decide +kernel
theorem dX12_forges_7 : decode cX12_forges 7 = .ok (.iadd, 1) := by decide +kernel
theorem dX12_forges_8 : decode cX12_forges 8 = .ok (.dup2, 1) := by decide +kernel
theorem dX12_forges_9 : decode cX12_forges 9 = .ok (.iaload, 1) := by decide +kernel
theorem dX12_forges_10 : decode cX12_forges 10 = .ok (.iload_n 2, 1) := by decide +kernel
theorem dX12_forges_11 : decode cX12_forges 11 = .ok (.aload_n 0, 1) := by decide +kernel
theorem dX12_forges_12 : decode cX12_forges 12 = .ok (.getfield 13, 3) := by decide +kernel
theorem dX12_forges_15 : decode cX12_forges 15 = .ok (.iconst 3, 1) := by decide +kernel
theorem dX12_forges_16 : decode cX12_forges 16 = .ok (.iaload, 1) := by decide +kernel
theorem dX12_forges_17 : decode cX12_forges 17 = .ok (.imul, 1) := by decide +kernel
theorem dX12_forges_18 : decode cX12_forges 18 = .ok (.isub, 1) := by decide +kernel
theorem dX12_forges_19 : decode cX12_forges 19 = .ok (.iastore, 1) := by decide +kernel
theorem dX12_forges_20 : decode cX12_forges 20 = .ok (.aload_n 0, 1) := by decide +kernel
theorem dX12_forges_21 : decode cX12_forges 21 = .ok (.getfield 108, 3) := by decide +kernel
theorem dX12_forges_24 : decode cX12_forges 24 = .ok (.bipush 13, 2) := by decide +kernel
theorem dX12_forges_26 : decode cX12_forges 26 = .ok (.iload_n 1, 1) := by decide +kernel
theorem dX12_forges_27 : decode cX12_forges 27 = .ok (.iadd, 1) := by decide +kernel
theorem dX12_forges_28 : decode cX12_forges 28 = .ok (.dup2, 1) := by decide +kernel
theorem dX12_forges_29 : decode cX12_forges 29 = .ok (.iaload, 1) := by decide +kernel
theorem dX12_forges_30 : decode cX12_forges 30 = .ok (.iload_n 2, 1) := by decide +kernel
theorem dX12_forges_31 : decode cX12_forges 31 = .ok (.iadd, 1) := by decide +kernel
theorem dX12_forges_32 : decode cX12_forges 32 = .ok (.iastore, 1) := by decide +kernel
theorem dX12_forges_33 : decode cX12_forges 33 = .ok (.return_, 1) := by decide +kernel
theorem dX12_shaves_0 : decode cX12_shaves 0 = .ok (.aload_n 0, 1) := by decide +kernel
theorem dX12_shaves_1 : decode cX12_shaves 1 = .ok (.getfield 108, 3) := by decide +kernel
theorem dX12_shaves_4 : decode cX12_shaves 4 = .ok (.bipush 7, 2) := by decide +kernel
theorem dX12_shaves_6 : decode cX12_shaves 6 = .ok (.iload_n 1, 1) := by decide +kernel
theorem dX12_shaves_7 : decode cX12_shaves 7 = .ok (.iadd, 1) := by decide +kernel
theorem dX12_shaves_8 : decode cX12_shaves 8 = .ok (.iconst 0, 1) := by decide +kernel
theorem dX12_shaves_9 : decode cX12_shaves 9 = .ok (.iastore, 1) := by decide +kernel
theorem dX12_shaves_10 : decode cX12_shaves 10 = .ok (.aload_n 0, 1) := by decide +kernel
theorem dX12_shaves_11 : decode cX12_shaves 11 = .ok (.getfield 108, 3) := by decide +kernel
theorem dX12_shaves_14 : decode cX12_shaves 14 = .ok (.bipush 13, 2) := by decide +kernel
theorem dX12_shaves_16 : decode cX12_shaves 16 = .ok (.iload_n 1, 1) := by decide +kernel
theorem dX12_shaves_17 : decode cX12_shaves 17 = .ok (.iadd, 1) := by decide +kernel
theorem dX12_shaves_18 : decode cX12_shaves 18 = .ok (.iconst 0, 1) := by decide +kernel
theorem dX12_shaves_19 : decode cX12_shaves 19 = .ok (.iastore, 1) := by decide +kernel
theorem dX12_shaves_20 : decode cX12_shaves 20 = .ok (.return_, 1) := by decide +kernel
theorem dX12_passes_0 : decode cX12_passes 0 = .ok (.iconst 0, 1) := by decide +kernel
theorem dX12_passes_1 : decode cX12_passes 1 = .ok (.istore_n 1, 1) := by decide +kernel
theorem dX12_passes_2 : decode cX12_passes 2 = .ok (.iload_n 1, 1) := by decide +kernel
theorem dX12_passes_3 : decode cX12_passes 3 = .ok (.aload_n 0, 1) := by decide +kernel
theorem dX12_passes_4 : decode cX12_passes 4 = .ok (.getfield 13, 3) := by decide +kernel
theorem dX12_passes_7 : decode cX12_passes 7 = .ok (.iconst 1, 1) := by decide +kernel
theorem dX12_passes_8 : decode cX12_passes 8 = .ok (.iaload, 1) := by decide +kernel
theorem dX12_passes_9 : decode cX12_passes 9 = .ok (.if_icmp .ge 49, 3) := by decide +kernel
theorem dX12_passes_12 : decode cX12_passes 12 = .ok (.aload_n 0, 1) := by decide +kernel
theorem dX12_passes_13 : decode cX12_passes 13 = .ok (.getfield 29, 3) := by decide +kernel
theorem dX12_passes_16 : decode cX12_passes 16 = .ok (.iload_n 1, 1) := by decide +kernel
theorem dX12_passes_17 : decode cX12_passes 17 = .ok (.iaload, 1) := by decide +kernel
theorem dX12_passes_18 : decode cX12_passes 18 = .ok (.iconst 1, 1) := by decide +kernel
theorem dX12_passes_19 : decode cX12_passes 19 = .ok (.if_icmp .eq 33, 3) := by decide +kernel
theorem dX12_passes_22 : decode cX12_passes 22 = .ok (.aload_n 0, 1) := by decide +kernel
theorem dX12_passes_23 : decode cX12_passes 23 = .ok (.getfield 108, 3) := by decide +kernel
theorem dX12_passes_26 : decode cX12_passes 26 = .ok (.bipush 7, 2) := by decide +kernel
theorem dX12_passes_28 : decode cX12_passes 28 = .ok (.iload_n 1, 1) := by decide +kernel
theorem dX12_passes_29 : decode cX12_passes 29 = .ok (.iadd, 1) := by decide +kernel
theorem dX12_passes_30 : decode cX12_passes 30 = .ok (.bipush 60, 2) := by decide +kernel
theorem dX12_passes_32 : decode cX12_passes 32 = .ok (.aload_n 0, 1) := by decide +kernel
theorem dX12_passes_33 : decode cX12_passes 33 = .ok (.getfield 108, 3) := by decide +kernel
theorem dX12_passes_36 : decode cX12_passes 36 = .ok (.bipush 7, 2) := by decide +kernel
theorem dX12_passes_38 : decode cX12_passes 38 = .ok (.iload_n 1, 1) := by decide +kernel
theorem dX12_passes_39 : decode cX12_passes 39 = .ok (.iadd, 1) := by decide +kernel
theorem dX12_passes_40 : decode cX12_passes 40 = .ok (.iaload, 1) := by decide +kernel
theorem dX12_passes_41 : decode cX12_passes 41 = .ok (.aload_n 0, 1) := by decide +kernel
theorem dX12_passes_42 : decode cX12_passes 42 = .ok (.getfield 13, 3) := by decide +kernel
theorem dX12_passes_45 : decode cX12_passes 45 = .ok (.iconst 2, 1) := by decide +kernel
theorem dX12_passes_46 : decode cX12_passes 46 = .ok (.iaload, 1) := by decide +kernel
theorem dX12_passes_47 : decode cX12_passes 47 = .ok (.iadd, 1) := by decide +kernel
theorem dX12_passes_48 : decode cX12_passes 48 = .ok (.invokestatic 365, 3) := by decide +kernel
theorem dX12_passes_51 : decode cX12_passes 51 = .ok (.iastore, 1) := by decide +kernel
theorem dX12_passes_52 : decode cX12_passes 52 = .ok (.iinc 1 1, 3) := by decide +kernel
theorem dX12_passes_55 : decode cX12_passes 55 = .ok (.goto (-53), 3) := by decide +kernel
theorem dX12_passes_58 : decode cX12_passes 58 = .ok (.aload_n 0, 1) := by decide +kernel
theorem dX12_passes_59 : decode cX12_passes 59 = .ok (.getfield 108, 3) := by decide +kernel
theorem dX12_passes_62 : decode cX12_passes 62 = .ok (.iconst 0, 1) := by decide +kernel
theorem dX12_passes_63 : decode cX12_passes 63 = .ok (.dup2, 1) := by decide +kernel
theorem dX12_passes_64 : decode cX12_passes 64 = .ok (.iaload, 1) := by decide +kernel
theorem dX12_passes_65 : decode cX12_passes 65 = .ok (.iconst 1, 1) := by decide +kernel
theorem dX12_passes_66 : decode cX12_passes 66 = .ok (.iadd, 1) := by decide +kernel
theorem dX12_passes_67 : decode cX12_passes 67 = .ok (.iastore, 1) := by decide +kernel
theorem dX12_passes_68 : decode cX12_passes 68 = .ok (.return_, 1) := by decide +kernel
theorem dX12_letThrough_0 : decode cX12_letThrough 0 = .ok (.iconst 0, 1) := by decide +kernel
theorem dX12_letThrough_1 : decode cX12_letThrough 1 = .ok (.istore_n 2, 1) := by decide +kernel
theorem dX12_letThrough_2 : decode cX12_letThrough 2 = .ok (.iconst 0, 1) := by decide +kernel
theorem dX12_letThrough_3 : decode cX12_letThrough 3 = .ok (.istore_n 3, 1) := by decide +kernel
theorem dX12_letThrough_4 : decode cX12_letThrough 4 = .ok (.iload_n 3, 1) := by decide +kernel
theorem dX12_letThrough_5 : decode cX12_letThrough 5 = .ok (.aload_n 0, 1) := by decide +kernel
theorem dX12_letThrough_6 : decode cX12_letThrough 6 = .ok (.getfield 13, 3) := by decide +kernel
theorem dX12_letThrough_9 : decode cX12_letThrough 9 = .ok (.iconst 1, 1) := by decide +kernel
theorem dX12_letThrough_10 : decode cX12_letThrough 10 = .ok (.iaload, 1) := by decide +kernel
theorem dX12_letThrough_11 : decode cX12_letThrough 11 = .ok (.if_icmp .ge 36, 3) := by decide +kernel
theorem dX12_letThrough_14 : decode cX12_letThrough 14 = .ok (.iload_n 2, 1) := by decide +kernel
theorem dX12_letThrough_15 : decode cX12_letThrough 15 = .ok (.aload_n 0, 1) := by decide +kernel
theorem dX12_letThrough_16 : decode cX12_letThrough 16 = .ok (.iload_n 1, 1) := by decide +kernel
theorem dX12_letThrough_17 : decode cX12_letThrough 17 = .ok (.iload_n 3, 1) := by decide +kernel
theorem dX12_letThrough_18 : decode cX12_letThrough 18 = .ok (.aload_n 0, 1) := by decide +kernel
theorem dX12_letThrough_19 : decode cX12_letThrough 19 = .ok (.getfield 108, 3) := by decide +kernel
theorem dX12_letThrough_22 : decode cX12_letThrough 22 = .ok (.iconst 1, 1) := by decide +kernel
theorem dX12_letThrough_23 : decode cX12_letThrough 23 = .ok (.iload_n 3, 1) := by decide +kernel
theorem dX12_letThrough_24 : decode cX12_letThrough 24 = .ok (.iadd, 1) := by decide +kernel
theorem dX12_letThrough_25 : decode cX12_letThrough 25 = .ok (.iaload, 1) := by decide +kernel
theorem dX12_letThrough_26 : decode cX12_letThrough 26 = .ok (.invokevirtual 362, 3) := by decide +kernel
theorem dX12_letThrough_29 : decode cX12_letThrough 29 = .ok (.ifCond .eq 9, 3) := by decide +kernel
theorem dX12_letThrough_32 : decode cX12_letThrough 32 = .ok (.iconst 1, 1) := by decide +kernel
theorem dX12_letThrough_33 : decode cX12_letThrough 33 = .ok (.iload_n 3, 1) := by decide +kernel
theorem dX12_letThrough_34 : decode cX12_letThrough 34 = .ok (.ishl, 1) := by decide +kernel
theorem dX12_letThrough_35 : decode cX12_letThrough 35 = .ok (.goto 4, 3) := by decide +kernel
theorem dX12_letThrough_38 : decode cX12_letThrough 38 = .ok (.iconst 0, 1) := by decide +kernel
theorem dX12_letThrough_39 : decode cX12_letThrough 39 = .ok (.ior, 1) := by decide +kernel
theorem dX12_letThrough_40 : decode cX12_letThrough 40 = .ok (.istore_n 2, 1) := by decide +kernel
theorem dX12_letThrough_41 : decode cX12_letThrough 41 = .ok (.iinc 3 1, 3) := by decide +kernel
theorem dX12_letThrough_44 : decode cX12_letThrough 44 = .ok (.goto (-40), 3) := by decide +kernel
theorem dX12_letThrough_47 : decode cX12_letThrough 47 = .ok (.iload_n 2, 1) := by decide +kernel
theorem dX12_letThrough_48 : decode cX12_letThrough 48 = .ok (.ireturn, 1) := by decide +kernel
theorem dX12_allOf_0 : decode cX12_allOf 0 = .ok (.iconst 0, 1) := by decide +kernel
theorem dX12_allOf_1 : decode cX12_allOf 1 = .ok (.istore_n 2, 1) := by decide +kernel
theorem dX12_allOf_2 : decode cX12_allOf 2 = .ok (.iload_n 1, 1) := by decide +kernel
theorem dX12_allOf_3 : decode cX12_allOf 3 = .ok (.istore_n 3, 1) := by decide +kernel
theorem dX12_allOf_4 : decode cX12_allOf 4 = .ok (.iload_n 3, 1) := by decide +kernel
theorem dX12_allOf_5 : decode cX12_allOf 5 = .ok (.iload_n 1, 1) := by decide +kernel
theorem dX12_allOf_6 : decode cX12_allOf 6 = .ok (.bipush 6, 2) := by decide +kernel
theorem dX12_allOf_8 : decode cX12_allOf 8 = .ok (.iadd, 1) := by decide +kernel
theorem dX12_allOf_9 : decode cX12_allOf 9 = .ok (.if_icmp .ge 18, 3) := by decide +kernel
theorem dX12_allOf_12 : decode cX12_allOf 12 = .ok (.iload_n 2, 1) := by decide +kernel
theorem dX12_allOf_13 : decode cX12_allOf 13 = .ok (.aload_n 0, 1) := by decide +kernel
theorem dX12_allOf_14 : decode cX12_allOf 14 = .ok (.getfield 108, 3) := by decide +kernel
theorem dX12_allOf_17 : decode cX12_allOf 17 = .ok (.iload_n 3, 1) := by decide +kernel
theorem dX12_allOf_18 : decode cX12_allOf 18 = .ok (.iaload, 1) := by decide +kernel
theorem dX12_allOf_19 : decode cX12_allOf 19 = .ok (.iadd, 1) := by decide +kernel
theorem dX12_allOf_20 : decode cX12_allOf 20 = .ok (.istore_n 2, 1) := by decide +kernel
theorem dX12_allOf_21 : decode cX12_allOf 21 = .ok (.iinc 3 1, 3) := by decide +kernel
theorem dX12_allOf_24 : decode cX12_allOf 24 = .ok (.goto (-20), 3) := by decide +kernel
theorem dX12_allOf_27 : decode cX12_allOf 27 = .ok (.iload_n 2, 1) := by decide +kernel
theorem dX12_allOf_28 : decode cX12_allOf 28 = .ok (.ireturn, 1) := by decide +kernel
theorem dX12_peopled_0 : decode cX12_peopled 0 = .ok (.iconst 0, 1) := by decide +kernel
theorem dX12_peopled_1 : decode cX12_peopled 1 = .ok (.istore_n 1, 1) := by decide +kernel
theorem dX12_peopled_2 : decode cX12_peopled 2 = .ok (.iconst 0, 1) := by decide +kernel
theorem dX12_peopled_3 : decode cX12_peopled 3 = .ok (.istore_n 2, 1) := by decide +kernel
theorem dX12_peopled_4 : decode cX12_peopled 4 = .ok (.iload_n 2, 1) := by decide +kernel
theorem dX12_peopled_5 : decode cX12_peopled 5 = .ok (.aload_n 0, 1) := by decide +kernel
theorem dX12_peopled_6 : decode cX12_peopled 6 = .ok (.getfield 13, 3) := by decide +kernel
theorem dX12_peopled_9 : decode cX12_peopled 9 = .ok (.iconst 1, 1) := by decide +kernel
theorem dX12_peopled_10 : decode cX12_peopled 10 = .ok (.iaload, 1) := by decide +kernel
theorem dX12_peopled_11 : decode cX12_peopled 11 = .ok (.if_icmp .ge 22, 3) := by decide +kernel
theorem dX12_peopled_14 : decode cX12_peopled 14 = .ok (.iload_n 1, 1) := by decide +kernel
theorem dX12_peopled_15 : decode cX12_peopled 15 = .ok (.iconst 1, 1) := by decide +kernel
theorem dX12_peopled_16 : decode cX12_peopled 16 = .ok (.aload_n 0, 1) := by decide +kernel
theorem dX12_peopled_17 : decode cX12_peopled 17 = .ok (.getfield 108, 3) := by decide +kernel
theorem dX12_peopled_20 : decode cX12_peopled 20 = .ok (.iconst 1, 1) := by decide +kernel
theorem dX12_peopled_21 : decode cX12_peopled 21 = .ok (.iload_n 2, 1) := by decide +kernel
theorem dX12_peopled_22 : decode cX12_peopled 22 = .ok (.iadd, 1) := by decide +kernel
theorem dX12_peopled_23 : decode cX12_peopled 23 = .ok (.iaload, 1) := by decide +kernel
theorem dX12_peopled_24 : decode cX12_peopled 24 = .ok (.ishl, 1) := by decide +kernel
theorem dX12_peopled_25 : decode cX12_peopled 25 = .ok (.ior, 1) := by decide +kernel
theorem dX12_peopled_26 : decode cX12_peopled 26 = .ok (.istore_n 1, 1) := by decide +kernel
theorem dX12_peopled_27 : decode cX12_peopled 27 = .ok (.iinc 2 1, 3) := by decide +kernel
theorem dX12_peopled_30 : decode cX12_peopled 30 = .ok (.goto (-26), 3) := by decide +kernel
theorem dX12_peopled_33 : decode cX12_peopled 33 = .ok (.iload_n 1, 1) := by decide +kernel
theorem dX12_peopled_34 : decode cX12_peopled 34 = .ok (.ireturn, 1) := by decide +kernel
theorem dX12_person_0 : decode cX12_person 0 = .ok (.aload_n 0, 1) := by decide +kernel
theorem dX12_person_1 : decode cX12_person 1 = .ok (.iconst 0, 1) := by decide +kernel
theorem dX12_person_2 : decode cX12_person 2 = .ok (.putfield 129, 3) := by decide +kernel
theorem dX12_person_5 : decode cX12_person 5 = .ok (.aload_n 0, 1) := by decide +kernel
theorem dX12_person_6 : decode cX12_person 6 = .ok (.iload_n 1, 1) := by decide +kernel
theorem dX12_person_7 : decode cX12_person 7 = .ok (.invokevirtual 370, 3) := by decide +kernel
theorem dX12_person_10 : decode cX12_person 10 = .ok (.ifCond .eq 12, 3) := by decide +kernel
theorem dX12_person_13 : decode cX12_person 13 = .ok (.iload_n 2, 1) := by decide +kernel
theorem dX12_person_14 : decode cX12_person 14 = .ok (.iconst 0, 1) := by decide +kernel
theorem dX12_person_15 : decode cX12_person 15 = .ok (.iconst 5, 1) := by decide +kernel
theorem dX12_person_16 : decode cX12_person 16 = .ok (.invokestatic 252, 3) := by decide +kernel
theorem dX12_person_19 : decode cX12_person 19 = .ok (.ifCond .ne 5, 3) := by decide +kernel
theorem dX12_person_22 : decode cX12_person 22 = .ok (.iconst (-1), 1) := by decide +kernel
theorem dX12_person_23 : decode cX12_person 23 = .ok (.ireturn, 1) := by decide +kernel
theorem dX12_person_24 : decode cX12_person 24 = .ok (.iload_n 2, 1) := by decide +kernel
theorem dX12_person_25 : decode cX12_person 25 = .ok (.iconst 2, 1) := by decide +kernel
theorem dX12_person_26 : decode cX12_person 26 = .ok (.if_icmp .ge 25, 3) := by decide +kernel
theorem dX12_person_29 : decode cX12_person 29 = .ok (.iload_n 2, 1) := by decide +kernel
theorem dX12_person_30 : decode cX12_person 30 = .ok (.ifCond .ne 12, 3) := by decide +kernel
theorem dX12_person_33 : decode cX12_person 33 = .ok (.aload_n 0, 1) := by decide +kernel
theorem dX12_person_34 : decode cX12_person 34 = .ok (.getfield 29, 3) := by decide +kernel
theorem dX12_person_37 : decode cX12_person 37 = .ok (.iload_n 1, 1) := by decide +kernel
theorem dX12_person_38 : decode cX12_person 38 = .ok (.iaload, 1) := by decide +kernel
theorem dX12_person_39 : decode cX12_person 39 = .ok (.goto 11, 3) := by decide +kernel
theorem dX12_person_42 : decode cX12_person 42 = .ok (.aload_n 0, 1) := by decide +kernel
theorem dX12_person_43 : decode cX12_person 43 = .ok (.getfield 108, 3) := by decide +kernel
theorem dX12_person_46 : decode cX12_person 46 = .ok (.iconst 1, 1) := by decide +kernel
theorem dX12_person_47 : decode cX12_person 47 = .ok (.iload_n 1, 1) := by decide +kernel
theorem dX12_person_48 : decode cX12_person 48 = .ok (.iadd, 1) := by decide +kernel
theorem dX12_person_49 : decode cX12_person 49 = .ok (.iaload, 1) := by decide +kernel
theorem dX12_person_50 : decode cX12_person 50 = .ok (.ireturn, 1) := by decide +kernel
theorem dX12_person_51 : decode cX12_person 51 = .ok (.iload_n 2, 1) := by decide +kernel
theorem dX12_person_52 : decode cX12_person 52 = .ok (.iconst 4, 1) := by decide +kernel
theorem dX12_person_53 : decode cX12_person 53 = .ok (.if_icmp .ge 40, 3) := by decide +kernel
theorem dX12_person_56 : decode cX12_person 56 = .ok (.iload_n 2, 1) := by decide +kernel
theorem dX12_person_57 : decode cX12_person 57 = .ok (.iconst 2, 1) := by decide +kernel
theorem dX12_person_58 : decode cX12_person 58 = .ok (.if_icmp .ne 25, 3) := by decide +kernel
theorem dX12_person_61 : decode cX12_person 61 = .ok (.aload_n 0, 1) := by decide +kernel
theorem dX12_person_62 : decode cX12_person 62 = .ok (.getfield 108, 3) := by decide +kernel
theorem dX12_person_65 : decode cX12_person 65 = .ok (.bipush 7, 2) := by decide +kernel
theorem dX12_person_67 : decode cX12_person 67 = .ok (.iload_n 1, 1) := by decide +kernel
theorem dX12_person_68 : decode cX12_person 68 = .ok (.iadd, 1) := by decide +kernel
theorem dX12_person_69 : decode cX12_person 69 = .ok (.iaload, 1) := by decide +kernel
theorem dX12_person_70 : decode cX12_person 70 = .ok (.aload_n 0, 1) := by decide +kernel
theorem dX12_person_71 : decode cX12_person 71 = .ok (.getfield 108, 3) := by decide +kernel
theorem dX12_person_74 : decode cX12_person 74 = .ok (.bipush 13, 2) := by decide +kernel
theorem dX12_person_76 : decode cX12_person 76 = .ok (.iload_n 1, 1) := by decide +kernel
theorem dX12_person_77 : decode cX12_person 77 = .ok (.iadd, 1) := by decide +kernel
theorem dX12_person_78 : decode cX12_person 78 = .ok (.iaload, 1) := by decide +kernel
theorem dX12_person_79 : decode cX12_person 79 = .ok (.iadd, 1) := by decide +kernel
theorem dX12_person_80 : decode cX12_person 80 = .ok (.goto 12, 3) := by decide +kernel
theorem dX12_person_83 : decode cX12_person 83 = .ok (.aload_n 0, 1) := by decide +kernel
theorem dX12_person_84 : decode cX12_person 84 = .ok (.getfield 108, 3) := by decide +kernel
theorem dX12_person_87 : decode cX12_person 87 = .ok (.bipush 13, 2) := by decide +kernel
theorem dX12_person_89 : decode cX12_person 89 = .ok (.iload_n 1, 1) := by decide +kernel
theorem dX12_person_90 : decode cX12_person 90 = .ok (.iadd, 1) := by decide +kernel
theorem dX12_person_91 : decode cX12_person 91 = .ok (.iaload, 1) := by decide +kernel
theorem dX12_person_92 : decode cX12_person 92 = .ok (.ireturn, 1) := by decide +kernel
theorem dX12_person_93 : decode cX12_person 93 = .ok (.iload_n 2, 1) := by decide +kernel
theorem dX12_person_94 : decode cX12_person 94 = .ok (.iconst 4, 1) := by decide +kernel
theorem dX12_person_95 : decode cX12_person 95 = .ok (.if_icmp .ne 15, 3) := by decide +kernel
theorem dX12_person_98 : decode cX12_person 98 = .ok (.aload_n 0, 1) := by decide +kernel
theorem dX12_person_99 : decode cX12_person 99 = .ok (.getfield 108, 3) := by decide +kernel
theorem dX12_person_102 : decode cX12_person 102 = .ok (.bipush 19, 2) := by decide +kernel
theorem dX12_person_104 : decode cX12_person 104 = .ok (.iload_n 1, 1) := by decide +kernel
theorem dX12_person_105 : decode cX12_person 105 = .ok (.iadd, 1) := by decide +kernel
theorem dX12_person_106 : decode cX12_person 106 = .ok (.iaload, 1) := by decide +kernel
theorem dX12_person_107 : decode cX12_person 107 = .ok (.goto 12, 3) := by decide +kernel
theorem dX12_person_110 : decode cX12_person 110 = .ok (.aload_n 0, 1) := by decide +kernel
theorem dX12_person_111 : decode cX12_person 111 = .ok (.getfield 108, 3) := by decide +kernel
theorem dX12_person_114 : decode cX12_person 114 = .ok (.bipush 25, 2) := by decide +kernel
theorem dX12_person_116 : decode cX12_person 116 = .ok (.iload_n 1, 1) := by decide +kernel
theorem dX12_person_117 : decode cX12_person 117 = .ok (.iadd, 1) := by decide +kernel
theorem dX12_person_118 : decode cX12_person 118 = .ok (.iaload, 1) := by decide +kernel
theorem dX12_person_119 : decode cX12_person 119 = .ok (.ireturn, 1) := by decide +kernel
theorem dX12_town_0 : decode cX12_town 0 = .ok (.aload_n 0, 1) := by decide +kernel
theorem dX12_town_1 : decode cX12_town 1 = .ok (.iconst 0, 1) := by decide +kernel
theorem dX12_town_2 : decode cX12_town 2 = .ok (.putfield 129, 3) := by decide +kernel
theorem dX12_town_5 : decode cX12_town 5 = .ok (.aload_n 0, 1) := by decide +kernel
theorem dX12_town_6 : decode cX12_town 6 = .ok (.iload_n 1, 1) := by decide +kernel
theorem dX12_town_7 : decode cX12_town 7 = .ok (.invokevirtual 373, 3) := by decide +kernel
theorem dX12_town_10 : decode cX12_town 10 = .ok (.ifCond .eq 12, 3) := by decide +kernel
theorem dX12_town_13 : decode cX12_town 13 = .ok (.iload_n 2, 1) := by decide +kernel
theorem dX12_town_14 : decode cX12_town 14 = .ok (.iconst 0, 1) := by decide +kernel
theorem dX12_town_15 : decode cX12_town 15 = .ok (.iconst 2, 1) := by decide +kernel
theorem dX12_town_16 : decode cX12_town 16 = .ok (.invokestatic 252, 3) := by decide +kernel
theorem dX12_town_19 : decode cX12_town 19 = .ok (.ifCond .ne 5, 3) := by decide +kernel
theorem dX12_town_22 : decode cX12_town 22 = .ok (.iconst (-1), 1) := by decide +kernel
theorem dX12_town_23 : decode cX12_town 23 = .ok (.ireturn, 1) := by decide +kernel
theorem dX12_town_24 : decode cX12_town 24 = .ok (.iload_n 2, 1) := by decide +kernel
theorem dX12_town_25 : decode cX12_town 25 = .ok (.ifCond .ne 12, 3) := by decide +kernel
theorem dX12_town_28 : decode cX12_town 28 = .ok (.aload_n 0, 1) := by decide +kernel
theorem dX12_town_29 : decode cX12_town 29 = .ok (.getfield 23, 3) := by decide +kernel
theorem dX12_town_32 : decode cX12_town 32 = .ok (.iload_n 1, 1) := by decide +kernel
theorem dX12_town_33 : decode cX12_town 33 = .ok (.iaload, 1) := by decide +kernel
theorem dX12_town_34 : decode cX12_town 34 = .ok (.goto 22, 3) := by decide +kernel
theorem dX12_town_37 : decode cX12_town 37 = .ok (.iload_n 2, 1) := by decide +kernel
theorem dX12_town_38 : decode cX12_town 38 = .ok (.iconst 1, 1) := by decide +kernel
theorem dX12_town_39 : decode cX12_town 39 = .ok (.if_icmp .ne 12, 3) := by decide +kernel
theorem dX12_town_42 : decode cX12_town 42 = .ok (.aload_n 0, 1) := by decide +kernel
theorem dX12_town_43 : decode cX12_town 43 = .ok (.getfield 26, 3) := by decide +kernel
theorem dX12_town_46 : decode cX12_town 46 = .ok (.iload_n 1, 1) := by decide +kernel
theorem dX12_town_47 : decode cX12_town 47 = .ok (.iaload, 1) := by decide +kernel
theorem dX12_town_48 : decode cX12_town 48 = .ok (.goto 8, 3) := by decide +kernel
theorem dX12_town_51 : decode cX12_town 51 = .ok (.aload_n 0, 1) := by decide +kernel
theorem dX12_town_52 : decode cX12_town 52 = .ok (.iload_n 1, 1) := by decide +kernel
theorem dX12_town_53 : decode cX12_town 53 = .ok (.invokevirtual 376, 3) := by decide +kernel
theorem dX12_town_56 : decode cX12_town 56 = .ok (.ireturn, 1) := by decide +kernel
theorem dX12_keeps_0 : decode cX12_keeps 0 = .ok (.aload_n 0, 1) := by decide +kernel
theorem dX12_keeps_1 : decode cX12_keeps 1 = .ok (.getfield 336, 3) := by decide +kernel
theorem dX12_keeps_4 : decode cX12_keeps 4 = .ok (.bipush 16, 2) := by decide +kernel
theorem dX12_keeps_6 : decode cX12_keeps 6 = .ok (.if_icmp .ne 43, 3) := by decide +kernel
theorem dX12_keeps_9 : decode cX12_keeps 9 = .ok (.iconst 0, 1) := by decide +kernel
theorem dX12_keeps_10 : decode cX12_keeps 10 = .ok (.istore_n 1, 1) := by decide +kernel
theorem dX12_keeps_11 : decode cX12_keeps 11 = .ok (.iload_n 1, 1) := by decide +kernel
theorem dX12_keeps_12 : decode cX12_keeps 12 = .ok (.sipush 465, 3) := by decide +kernel
theorem dX12_keeps_15 : decode cX12_keeps 15 = .ok (.if_icmp .ge 24, 3) := by decide +kernel
theorem dX12_keeps_18 : decode cX12_keeps 18 = .ok (.aload_n 0, 1) := by decide +kernel
theorem dX12_keeps_19 : decode cX12_keeps 19 = .ok (.getfield 120, 3) := by decide +kernel
theorem dX12_keeps_22 : decode cX12_keeps 22 = .ok (.iload_n 1, 1) := by decide +kernel
theorem dX12_keeps_23 : decode cX12_keeps 23 = .ok (.aload_n 0, 1) := by decide +kernel
theorem dX12_keeps_24 : decode cX12_keeps 24 = .ok (.getfield 120, 3) := by decide +kernel
theorem dX12_keeps_27 : decode cX12_keeps 27 = .ok (.iload_n 1, 1) := by decide +kernel
theorem dX12_keeps_28 : decode cX12_keeps 28 = .ok (.bipush 31, 2) := by decide +kernel
theorem dX12_keeps_30 : decode cX12_keeps 30 = .ok (.iadd, 1) := by decide +kernel
theorem dX12_keeps_31 : decode cX12_keeps 31 = .ok (.iaload, 1) := by decide +kernel
theorem dX12_keeps_32 : decode cX12_keeps 32 = .ok (.iastore, 1) := by decide +kernel
theorem dX12_keeps_33 : decode cX12_keeps 33 = .ok (.iinc 1 1, 3) := by decide +kernel
theorem dX12_keeps_36 : decode cX12_keeps 36 = .ok (.goto (-25), 3) := by decide +kernel
theorem dX12_keeps_39 : decode cX12_keeps 39 = .ok (.aload_n 0, 1) := by decide +kernel
theorem dX12_keeps_40 : decode cX12_keeps 40 = .ok (.dup, 1) := by decide +kernel
theorem dX12_keeps_41 : decode cX12_keeps 41 = .ok (.getfield 336, 3) := by decide +kernel
theorem dX12_keeps_44 : decode cX12_keeps 44 = .ok (.iconst 1, 1) := by decide +kernel
theorem dX12_keeps_45 : decode cX12_keeps 45 = .ok (.isub, 1) := by decide +kernel
theorem dX12_keeps_46 : decode cX12_keeps 46 = .ok (.putfield 336, 3) := by decide +kernel
theorem dX12_keeps_49 : decode cX12_keeps 49 = .ok (.aload_n 0, 1) := by decide +kernel
theorem dX12_keeps_50 : decode cX12_keeps 50 = .ok (.getfield 108, 3) := by decide +kernel
theorem dX12_keeps_53 : decode cX12_keeps 53 = .ok (.iconst 0, 1) := by decide +kernel
theorem dX12_keeps_54 : decode cX12_keeps 54 = .ok (.aload_n 0, 1) := by decide +kernel
theorem dX12_keeps_55 : decode cX12_keeps 55 = .ok (.getfield 120, 3) := by decide +kernel
theorem dX12_keeps_58 : decode cX12_keeps 58 = .ok (.bipush 31, 2) := by decide +kernel
theorem dX12_keeps_60 : decode cX12_keeps 60 = .ok (.aload_n 0, 1) := by decide +kernel
theorem dX12_keeps_61 : decode cX12_keeps 61 = .ok (.getfield 336, 3) := by decide +kernel
theorem dX12_keeps_64 : decode cX12_keeps 64 = .ok (.imul, 1) := by decide +kernel
theorem dX12_keeps_65 : decode cX12_keeps 65 = .ok (.invokestatic 379, 3) := by decide +kernel
theorem dX12_keeps_68 : decode cX12_keeps 68 = .ok (.aload_n 0, 1) := by decide +kernel
theorem dX12_keeps_69 : decode cX12_keeps 69 = .ok (.dup, 1) := by decide +kernel
theorem dX12_keeps_70 : decode cX12_keeps 70 = .ok (.getfield 336, 3) := by decide +kernel
theorem dX12_keeps_73 : decode cX12_keeps 73 = .ok (.iconst 1, 1) := by decide +kernel
theorem dX12_keeps_74 : decode cX12_keeps 74 = .ok (.iadd, 1) := by decide +kernel
theorem dX12_keeps_75 : decode cX12_keeps 75 = .ok (.putfield 336, 3) := by decide +kernel
theorem dX12_keeps_78 : decode cX12_keeps 78 = .ok (.return_, 1) := by decide +kernel
theorem dX12_go_0 : decode cX12_go 0 = .ok (.aload_n 0, 1) := by decide +kernel
theorem dX12_go_1 : decode cX12_go 1 = .ok (.iconst 0, 1) := by decide +kernel
theorem dX12_go_2 : decode cX12_go 2 = .ok (.putfield 129, 3) := by decide +kernel
theorem dX12_go_5 : decode cX12_go 5 = .ok (.aload_n 0, 1) := by decide +kernel
theorem dX12_go_6 : decode cX12_go 6 = .ok (.iload_n 1, 1) := by decide +kernel
theorem dX12_go_7 : decode cX12_go 7 = .ok (.invokevirtual 370, 3) := by decide +kernel
theorem dX12_go_10 : decode cX12_go 10 = .ok (.ifCond .eq 20, 3) := by decide +kernel
theorem dX12_go_13 : decode cX12_go 13 = .ok (.aload_n 0, 1) := by decide +kernel
theorem dX12_go_14 : decode cX12_go 14 = .ok (.iload_n 2, 1) := by decide +kernel
theorem dX12_go_15 : decode cX12_go 15 = .ok (.invokevirtual 373, 3) := by decide +kernel
theorem dX12_go_18 : decode cX12_go 18 = .ok (.ifCond .eq 12, 3) := by decide +kernel
theorem dX12_go_21 : decode cX12_go 21 = .ok (.aload_n 0, 1) := by decide +kernel
theorem dX12_go_22 : decode cX12_go 22 = .ok (.iload_n 1, 1) := by decide +kernel
theorem dX12_go_23 : decode cX12_go 23 = .ok (.iload_n 2, 1) := by decide +kernel
theorem dX12_go_24 : decode cX12_go 24 = .ok (.invokevirtual 383, 3) := by decide +kernel
theorem dX12_go_27 : decode cX12_go 27 = .ok (.ifCond .ne 5, 3) := by decide +kernel
theorem dX12_go_30 : decode cX12_go 30 = .ok (.iconst 0, 1) := by decide +kernel
theorem dX12_go_31 : decode cX12_go 31 = .ok (.ireturn, 1) := by decide +kernel
theorem dX12_go_32 : decode cX12_go 32 = .ok (.aload_n 0, 1) := by decide +kernel
theorem dX12_go_33 : decode cX12_go 33 = .ok (.invokevirtual 386, 3) := by decide +kernel
theorem dX12_go_36 : decode cX12_go 36 = .ok (.aload_n 0, 1) := by decide +kernel
theorem dX12_go_37 : decode cX12_go 37 = .ok (.iload_n 1, 1) := by decide +kernel
theorem dX12_go_38 : decode cX12_go 38 = .ok (.iload_n 2, 1) := by decide +kernel
theorem dX12_go_39 : decode cX12_go 39 = .ok (.invokevirtual 389, 3) := by decide +kernel
theorem dX12_go_42 : decode cX12_go 42 = .ok (.iconst 1, 1) := by decide +kernel
theorem dX12_go_43 : decode cX12_go 43 = .ok (.ireturn, 1) := by decide +kernel
theorem dX12_forge_0 : decode cX12_forge 0 = .ok (.aload_n 0, 1) := by decide +kernel
theorem dX12_forge_1 : decode cX12_forge 1 = .ok (.iconst 0, 1) := by decide +kernel
theorem dX12_forge_2 : decode cX12_forge 2 = .ok (.putfield 129, 3) := by decide +kernel
theorem dX12_forge_5 : decode cX12_forge 5 = .ok (.aload_n 0, 1) := by decide +kernel
theorem dX12_forge_6 : decode cX12_forge 6 = .ok (.iload_n 1, 1) := by decide +kernel
theorem dX12_forge_7 : decode cX12_forge 7 = .ok (.invokevirtual 370, 3) := by decide +kernel
theorem dX12_forge_10 : decode cX12_forge 10 = .ok (.ifCond .eq 22, 3) := by decide +kernel
theorem dX12_forge_13 : decode cX12_forge 13 = .ok (.iload_n 2, 1) := by decide +kernel
theorem dX12_forge_14 : decode cX12_forge 14 = .ok (.iconst 1, 1) := by decide +kernel
theorem dX12_forge_15 : decode cX12_forge 15 = .ok (.bipush 20, 2) := by decide +kernel
theorem dX12_forge_17 : decode cX12_forge 17 = .ok (.invokestatic 252, 3) := by decide +kernel
theorem dX12_forge_20 : decode cX12_forge 20 = .ok (.ifCond .eq 12, 3) := by decide +kernel
theorem dX12_forge_23 : decode cX12_forge 23 = .ok (.aload_n 0, 1) := by decide +kernel
theorem dX12_forge_24 : decode cX12_forge 24 = .ok (.iload_n 1, 1) := by decide +kernel
theorem dX12_forge_25 : decode cX12_forge 25 = .ok (.iload_n 2, 1) := by decide +kernel
theorem dX12_forge_26 : decode cX12_forge 26 = .ok (.invokevirtual 392, 3) := by decide +kernel
theorem dX12_forge_29 : decode cX12_forge 29 = .ok (.ifCond .ne 5, 3) := by decide +kernel
theorem dX12_forge_32 : decode cX12_forge 32 = .ok (.iconst (-1), 1) := by decide +kernel
theorem dX12_forge_33 : decode cX12_forge 33 = .ok (.ireturn, 1) := by decide +kernel
theorem dX12_forge_34 : decode cX12_forge 34 = .ok (.aload_n 0, 1) := by decide +kernel
theorem dX12_forge_35 : decode cX12_forge 35 = .ok (.invokevirtual 386, 3) := by decide +kernel
theorem dX12_forge_38 : decode cX12_forge 38 = .ok (.aload_n 0, 1) := by decide +kernel
theorem dX12_forge_39 : decode cX12_forge 39 = .ok (.iload_n 1, 1) := by decide +kernel
theorem dX12_forge_40 : decode cX12_forge 40 = .ok (.iload_n 2, 1) := by decide +kernel
theorem dX12_forge_41 : decode cX12_forge 41 = .ok (.invokevirtual 395, 3) := by decide +kernel
theorem dX12_forge_44 : decode cX12_forge 44 = .ok (.aload_n 0, 1) := by decide +kernel
theorem dX12_forge_45 : decode cX12_forge 45 = .ok (.getfield 108, 3) := by decide +kernel
theorem dX12_forge_48 : decode cX12_forge 48 = .ok (.bipush 19, 2) := by decide +kernel
theorem dX12_forge_50 : decode cX12_forge 50 = .ok (.iload_n 1, 1) := by decide +kernel
theorem dX12_forge_51 : decode cX12_forge 51 = .ok (.iadd, 1) := by decide +kernel
theorem dX12_forge_52 : decode cX12_forge 52 = .ok (.iaload, 1) := by decide +kernel
theorem dX12_forge_53 : decode cX12_forge 53 = .ok (.ireturn, 1) := by decide +kernel
theorem dX12_shave_0 : decode cX12_shave 0 = .ok (.aload_n 0, 1) := by decide +kernel
theorem dX12_shave_1 : decode cX12_shave 1 = .ok (.iconst 0, 1) := by decide +kernel
theorem dX12_shave_2 : decode cX12_shave 2 = .ok (.putfield 129, 3) := by decide +kernel
theorem dX12_shave_5 : decode cX12_shave 5 = .ok (.aload_n 0, 1) := by decide +kernel
theorem dX12_shave_6 : decode cX12_shave 6 = .ok (.iload_n 1, 1) := by decide +kernel
theorem dX12_shave_7 : decode cX12_shave 7 = .ok (.invokevirtual 370, 3) := by decide +kernel
theorem dX12_shave_10 : decode cX12_shave 10 = .ok (.ifCond .ne 5, 3) := by decide +kernel
theorem dX12_shave_13 : decode cX12_shave 13 = .ok (.iconst 0, 1) := by decide +kernel
theorem dX12_shave_14 : decode cX12_shave 14 = .ok (.ireturn, 1) := by decide +kernel
theorem dX12_shave_15 : decode cX12_shave 15 = .ok (.aload_n 0, 1) := by decide +kernel
theorem dX12_shave_16 : decode cX12_shave 16 = .ok (.invokevirtual 386, 3) := by decide +kernel
theorem dX12_shave_19 : decode cX12_shave 19 = .ok (.aload_n 0, 1) := by decide +kernel
theorem dX12_shave_20 : decode cX12_shave 20 = .ok (.iload_n 1, 1) := by decide +kernel
theorem dX12_shave_21 : decode cX12_shave 21 = .ok (.invokevirtual 398, 3) := by decide +kernel
theorem dX12_shave_24 : decode cX12_shave 24 = .ok (.iconst 1, 1) := by decide +kernel
theorem dX12_shave_25 : decode cX12_shave 25 = .ok (.ireturn, 1) := by decide +kernel
theorem dX12_week_0 : decode cX12_week 0 = .ok (.aload_n 0, 1) := by decide +kernel
theorem dX12_week_1 : decode cX12_week 1 = .ok (.iconst 0, 1) := by decide +kernel
theorem dX12_week_2 : decode cX12_week 2 = .ok (.putfield 129, 3) := by decide +kernel
theorem dX12_week_5 : decode cX12_week 5 = .ok (.aload_n 0, 1) := by decide +kernel
theorem dX12_week_6 : decode cX12_week 6 = .ok (.invokevirtual 386, 3) := by decide +kernel
theorem dX12_week_9 : decode cX12_week 9 = .ok (.aload_n 0, 1) := by decide +kernel
theorem dX12_week_10 : decode cX12_week 10 = .ok (.invokevirtual 401, 3) := by decide +kernel
theorem dX12_week_13 : decode cX12_week 13 = .ok (.aload_n 0, 1) := by decide +kernel
theorem dX12_week_14 : decode cX12_week 14 = .ok (.getfield 108, 3) := by decide +kernel
theorem dX12_week_17 : decode cX12_week 17 = .ok (.iconst 0, 1) := by decide +kernel
theorem dX12_week_18 : decode cX12_week 18 = .ok (.iaload, 1) := by decide +kernel
theorem dX12_week_19 : decode cX12_week 19 = .ok (.ireturn, 1) := by decide +kernel
theorem dX12_undo_0 : decode cX12_undo 0 = .ok (.aload_n 0, 1) := by decide +kernel
theorem dX12_undo_1 : decode cX12_undo 1 = .ok (.iconst 0, 1) := by decide +kernel
theorem dX12_undo_2 : decode cX12_undo 2 = .ok (.putfield 129, 3) := by decide +kernel
theorem dX12_undo_5 : decode cX12_undo 5 = .ok (.aload_n 0, 1) := by decide +kernel
theorem dX12_undo_6 : decode cX12_undo 6 = .ok (.getfield 336, 3) := by decide +kernel
theorem dX12_undo_9 : decode cX12_undo 9 = .ok (.ifCond .ne 5, 3) := by decide +kernel
theorem dX12_undo_12 : decode cX12_undo 12 = .ok (.iconst 0, 1) := by decide +kernel
theorem dX12_undo_13 : decode cX12_undo 13 = .ok (.ireturn, 1) := by decide +kernel
theorem dX12_undo_14 : decode cX12_undo 14 = .ok (.aload_n 0, 1) := by decide +kernel
theorem dX12_undo_15 : decode cX12_undo 15 = .ok (.dup, 1) := by decide +kernel
theorem dX12_undo_16 : decode cX12_undo 16 = .ok (.getfield 336, 3) := by decide +kernel
theorem dX12_undo_19 : decode cX12_undo 19 = .ok (.iconst 1, 1) := by decide +kernel
theorem dX12_undo_20 : decode cX12_undo 20 = .ok (.isub, 1) := by decide +kernel
theorem dX12_undo_21 : decode cX12_undo 21 = .ok (.putfield 336, 3) := by decide +kernel
theorem dX12_undo_24 : decode cX12_undo 24 = .ok (.aload_n 0, 1) := by decide +kernel
theorem dX12_undo_25 : decode cX12_undo 25 = .ok (.getfield 120, 3) := by decide +kernel
theorem dX12_undo_28 : decode cX12_undo 28 = .ok (.bipush 31, 2) := by decide +kernel
theorem dX12_undo_30 : decode cX12_undo 30 = .ok (.aload_n 0, 1) := by decide +kernel
theorem dX12_undo_31 : decode cX12_undo 31 = .ok (.getfield 336, 3) := by decide +kernel
theorem dX12_undo_34 : decode cX12_undo 34 = .ok (.imul, 1) := by decide +kernel
theorem dX12_undo_35 : decode cX12_undo 35 = .ok (.aload_n 0, 1) := by decide +kernel
theorem dX12_undo_36 : decode cX12_undo 36 = .ok (.getfield 108, 3) := by decide +kernel
theorem dX12_undo_39 : decode cX12_undo 39 = .ok (.iconst 0, 1) := by decide +kernel
theorem dX12_undo_40 : decode cX12_undo 40 = .ok (.invokestatic 379, 3) := by decide +kernel
theorem dX12_undo_43 : decode cX12_undo 43 = .ok (.iconst 1, 1) := by decide +kernel
theorem dX12_undo_44 : decode cX12_undo 44 = .ok (.ireturn, 1) := by decide +kernel
theorem dX12_mostAsked_0 : decode cX12_mostAsked 0 = .ok (.iconst 0, 1) := by decide +kernel
theorem dX12_mostAsked_1 : decode cX12_mostAsked 1 = .ok (.istore_n 1, 1) := by decide +kernel
theorem dX12_mostAsked_2 : decode cX12_mostAsked 2 = .ok (.iconst 0, 1) := by decide +kernel
theorem dX12_mostAsked_3 : decode cX12_mostAsked 3 = .ok (.istore_n 2, 1) := by decide +kernel
theorem dX12_mostAsked_4 : decode cX12_mostAsked 4 = .ok (.iload_n 2, 1) := by decide +kernel
theorem dX12_mostAsked_5 : decode cX12_mostAsked 5 = .ok (.aload_n 0, 1) := by decide +kernel
theorem dX12_mostAsked_6 : decode cX12_mostAsked 6 = .ok (.getfield 13, 3) := by decide +kernel
theorem dX12_mostAsked_9 : decode cX12_mostAsked 9 = .ok (.iconst 0, 1) := by decide +kernel
theorem dX12_mostAsked_10 : decode cX12_mostAsked 10 = .ok (.iaload, 1) := by decide +kernel
theorem dX12_mostAsked_11 : decode cX12_mostAsked 11 = .ok (.if_icmp .ge 20, 3) := by decide +kernel
theorem dX12_mostAsked_14 : decode cX12_mostAsked 14 = .ok (.iload_n 1, 1) := by decide +kernel
theorem dX12_mostAsked_15 : decode cX12_mostAsked 15 = .ok (.aload_n 0, 1) := by decide +kernel
theorem dX12_mostAsked_16 : decode cX12_mostAsked 16 = .ok (.getfield 23, 3) := by decide +kernel
theorem dX12_mostAsked_19 : decode cX12_mostAsked 19 = .ok (.iload_n 2, 1) := by decide +kernel
theorem dX12_mostAsked_20 : decode cX12_mostAsked 20 = .ok (.iaload, 1) := by decide +kernel
theorem dX12_mostAsked_21 : decode cX12_mostAsked 21 = .ok (.invokestatic 404, 3) := by decide +kernel
theorem dX12_mostAsked_24 : decode cX12_mostAsked 24 = .ok (.istore_n 1, 1) := by decide +kernel
theorem dX12_mostAsked_25 : decode cX12_mostAsked 25 = .ok (.iinc 2 1, 3) := by decide +kernel
theorem dX12_mostAsked_28 : decode cX12_mostAsked 28 = .ok (.goto (-24), 3) := by decide +kernel
theorem dX12_mostAsked_31 : decode cX12_mostAsked 31 = .ok (.iload_n 1, 1) := by decide +kernel
theorem dX12_mostAsked_32 : decode cX12_mostAsked 32 = .ok (.ireturn, 1) := by decide +kernel
theorem dX12_follows_0 : decode cX12_follows 0 = .ok (.aload_n 0, 1) := by decide +kernel
theorem dX12_follows_1 : decode cX12_follows 1 = .ok (.getfield 93, 3) := by decide +kernel
theorem dX12_follows_4 : decode cX12_follows 4 = .ok (.iload_n 1, 1) := by decide +kernel
theorem dX12_follows_5 : decode cX12_follows 5 = .ok (.iaload, 1) := by decide +kernel
theorem dX12_follows_6 : decode cX12_follows 6 = .ok (.istore_n 2, 1) := by decide +kernel
theorem dX12_follows_7 : decode cX12_follows 7 = .ok (.aload_n 0, 1) := by decide +kernel
theorem dX12_follows_8 : decode cX12_follows 8 = .ok (.getfield 90, 3) := by decide +kernel
theorem dX12_follows_11 : decode cX12_follows 11 = .ok (.iload_n 1, 1) := by decide +kernel
theorem dX12_follows_12 : decode cX12_follows 12 = .ok (.iaload, 1) := by decide +kernel
theorem dX12_follows_13 : decode cX12_follows 13 = .ok (.istore_n 3, 1) := by decide +kernel
theorem dX12_follows_14 : decode cX12_follows 14 = .ok (.iload_n 3, 1) := by decide +kernel
theorem dX12_follows_15 : decode cX12_follows 15 = .ok (.ifCond .ne 33, 3) := by decide +kernel
theorem dX12_follows_18 : decode cX12_follows 18 = .ok (.aload_n 0, 1) := by decide +kernel
theorem dX12_follows_19 : decode cX12_follows 19 = .ok (.iload_n 2, 1) := by decide +kernel
theorem dX12_follows_20 : decode cX12_follows 20 = .ok (.aload_n 0, 1) := by decide +kernel
theorem dX12_follows_21 : decode cX12_follows 21 = .ok (.getfield 96, 3) := by decide +kernel
theorem dX12_follows_24 : decode cX12_follows 24 = .ok (.iload_n 1, 1) := by decide +kernel
theorem dX12_follows_25 : decode cX12_follows 25 = .ok (.iaload, 1) := by decide +kernel
theorem dX12_follows_26 : decode cX12_follows 26 = .ok (.invokevirtual 383, 3) := by decide +kernel
theorem dX12_follows_29 : decode cX12_follows 29 = .ok (.ifCond .ne 5, 3) := by decide +kernel
theorem dX12_follows_32 : decode cX12_follows 32 = .ok (.iconst 0, 1) := by decide +kernel
theorem dX12_follows_33 : decode cX12_follows 33 = .ok (.ireturn, 1) := by decide +kernel
theorem dX12_follows_34 : decode cX12_follows 34 = .ok (.aload_n 0, 1) := by decide +kernel
theorem dX12_follows_35 : decode cX12_follows 35 = .ok (.iload_n 2, 1) := by decide +kernel
theorem dX12_follows_36 : decode cX12_follows 36 = .ok (.aload_n 0, 1) := by decide +kernel
theorem dX12_follows_37 : decode cX12_follows 37 = .ok (.getfield 96, 3) := by decide +kernel
theorem dX12_follows_40 : decode cX12_follows 40 = .ok (.iload_n 1, 1) := by decide +kernel
theorem dX12_follows_41 : decode cX12_follows 41 = .ok (.iaload, 1) := by decide +kernel
theorem dX12_follows_42 : decode cX12_follows 42 = .ok (.invokevirtual 389, 3) := by decide +kernel
theorem dX12_follows_45 : decode cX12_follows 45 = .ok (.goto 55, 3) := by decide +kernel
theorem dX12_follows_48 : decode cX12_follows 48 = .ok (.iload_n 3, 1) := by decide +kernel
theorem dX12_follows_49 : decode cX12_follows 49 = .ok (.iconst 1, 1) := by decide +kernel
theorem dX12_follows_50 : decode cX12_follows 50 = .ok (.if_icmp .ne 33, 3) := by decide +kernel
theorem dX12_follows_53 : decode cX12_follows 53 = .ok (.aload_n 0, 1) := by decide +kernel
theorem dX12_follows_54 : decode cX12_follows 54 = .ok (.iload_n 2, 1) := by decide +kernel
theorem dX12_follows_55 : decode cX12_follows 55 = .ok (.aload_n 0, 1) := by decide +kernel
theorem dX12_follows_56 : decode cX12_follows 56 = .ok (.getfield 96, 3) := by decide +kernel
theorem dX12_follows_59 : decode cX12_follows 59 = .ok (.iload_n 1, 1) := by decide +kernel
theorem dX12_follows_60 : decode cX12_follows 60 = .ok (.iaload, 1) := by decide +kernel
theorem dX12_follows_61 : decode cX12_follows 61 = .ok (.invokevirtual 392, 3) := by decide +kernel
theorem dX12_follows_64 : decode cX12_follows 64 = .ok (.ifCond .ne 5, 3) := by decide +kernel
theorem dX12_follows_67 : decode cX12_follows 67 = .ok (.iconst 0, 1) := by decide +kernel
theorem dX12_follows_68 : decode cX12_follows 68 = .ok (.ireturn, 1) := by decide +kernel
theorem dX12_follows_69 : decode cX12_follows 69 = .ok (.aload_n 0, 1) := by decide +kernel
theorem dX12_follows_70 : decode cX12_follows 70 = .ok (.iload_n 2, 1) := by decide +kernel
theorem dX12_follows_71 : decode cX12_follows 71 = .ok (.aload_n 0, 1) := by decide +kernel
theorem dX12_follows_72 : decode cX12_follows 72 = .ok (.getfield 96, 3) := by decide +kernel
theorem dX12_follows_75 : decode cX12_follows 75 = .ok (.iload_n 1, 1) := by decide +kernel
theorem dX12_follows_76 : decode cX12_follows 76 = .ok (.iaload, 1) := by decide +kernel
theorem dX12_follows_77 : decode cX12_follows 77 = .ok (.invokevirtual 395, 3) := by decide +kernel
theorem dX12_follows_80 : decode cX12_follows 80 = .ok (.goto 20, 3) := by decide +kernel
theorem dX12_follows_83 : decode cX12_follows 83 = .ok (.iload_n 3, 1) := by decide +kernel
theorem dX12_follows_84 : decode cX12_follows 84 = .ok (.iconst 2, 1) := by decide +kernel
theorem dX12_follows_85 : decode cX12_follows 85 = .ok (.if_icmp .ne 11, 3) := by decide +kernel
theorem dX12_follows_88 : decode cX12_follows 88 = .ok (.aload_n 0, 1) := by decide +kernel
theorem dX12_follows_89 : decode cX12_follows 89 = .ok (.iload_n 2, 1) := by decide +kernel
theorem dX12_follows_90 : decode cX12_follows 90 = .ok (.invokevirtual 398, 3) := by decide +kernel
theorem dX12_follows_93 : decode cX12_follows 93 = .ok (.goto 7, 3) := by decide +kernel
theorem dX12_follows_96 : decode cX12_follows 96 = .ok (.aload_n 0, 1) := by decide +kernel
theorem dX12_follows_97 : decode cX12_follows 97 = .ok (.invokevirtual 401, 3) := by decide +kernel
theorem dX12_follows_100 : decode cX12_follows 100 = .ok (.iconst 1, 1) := by decide +kernel
theorem dX12_follows_101 : decode cX12_follows 101 = .ok (.ireturn, 1) := by decide +kernel
theorem dX12_judged_0 : decode cX12_judged 0 = .ok (.aload_n 0, 1) := by decide +kernel
theorem dX12_judged_1 : decode cX12_judged 1 = .ok (.iconst 0, 1) := by decide +kernel
theorem dX12_judged_2 : decode cX12_judged 2 = .ok (.putfield 129, 3) := by decide +kernel
theorem dX12_judged_5 : decode cX12_judged 5 = .ok (.iload_n 1, 1) := by decide +kernel
theorem dX12_judged_6 : decode cX12_judged 6 = .ok (.iconst 0, 1) := by decide +kernel
theorem dX12_judged_7 : decode cX12_judged 7 = .ok (.iconst 2, 1) := by decide +kernel
theorem dX12_judged_8 : decode cX12_judged 8 = .ok (.invokestatic 252, 3) := by decide +kernel
theorem dX12_judged_11 : decode cX12_judged 11 = .ok (.ifCond .ne 6, 3) := by decide +kernel
theorem dX12_judged_14 : decode cX12_judged 14 = .ok (.bipush (-2), 2) := by decide +kernel
theorem dX12_judged_16 : decode cX12_judged 16 = .ok (.ireturn, 1) := by decide +kernel
theorem dX12_judged_17 : decode cX12_judged 17 = .ok (.aload_n 0, 1) := by decide +kernel
theorem dX12_judged_18 : decode cX12_judged 18 = .ok (.getfield 108, 3) := by decide +kernel
theorem dX12_judged_21 : decode cX12_judged 21 = .ok (.iconst 0, 1) := by decide +kernel
theorem dX12_judged_22 : decode cX12_judged 22 = .ok (.aload_n 0, 1) := by decide +kernel
theorem dX12_judged_23 : decode cX12_judged 23 = .ok (.getfield 111, 3) := by decide +kernel
theorem dX12_judged_26 : decode cX12_judged 26 = .ok (.iconst 0, 1) := by decide +kernel
theorem dX12_judged_27 : decode cX12_judged 27 = .ok (.invokestatic 379, 3) := by decide +kernel
theorem dX12_judged_30 : decode cX12_judged 30 = .ok (.aload_n 0, 1) := by decide +kernel
theorem dX12_judged_31 : decode cX12_judged 31 = .ok (.invokevirtual 333, 3) := by decide +kernel
theorem dX12_judged_34 : decode cX12_judged 34 = .ok (.aload_n 0, 1) := by decide +kernel
theorem dX12_judged_35 : decode cX12_judged 35 = .ok (.bipush 19, 2) := by decide +kernel
theorem dX12_judged_37 : decode cX12_judged 37 = .ok (.invokevirtual 407, 3) := by decide +kernel
theorem dX12_judged_40 : decode cX12_judged 40 = .ok (.istore_n 2, 1) := by decide +kernel
theorem dX12_judged_41 : decode cX12_judged 41 = .ok (.iconst (-1), 1) := by decide +kernel
theorem dX12_judged_42 : decode cX12_judged 42 = .ok (.istore_n 3, 1) := by decide +kernel
theorem dX12_judged_43 : decode cX12_judged 43 = .ok (.iconst (-1), 1) := by decide +kernel
theorem dX12_judged_44 : decode cX12_judged 44 = .ok (.istore 4, 2) := by decide +kernel
theorem dX12_judged_46 : decode cX12_judged 46 = .ok (.iconst 0, 1) := by decide +kernel
theorem dX12_judged_47 : decode cX12_judged 47 = .ok (.istore 5, 2) := by decide +kernel
theorem dX12_judged_49 : decode cX12_judged 49 = .ok (.iload 5, 2) := by decide +kernel
theorem dX12_judged_51 : decode cX12_judged 51 = .ok (.aload_n 0, 1) := by decide +kernel
theorem dX12_judged_52 : decode cX12_judged 52 = .ok (.getfield 87, 3) := by decide +kernel
theorem dX12_judged_55 : decode cX12_judged 55 = .ok (.iconst 0, 1) := by decide +kernel
theorem dX12_judged_56 : decode cX12_judged 56 = .ok (.iaload, 1) := by decide +kernel
theorem dX12_judged_57 : decode cX12_judged 57 = .ok (.if_icmp .ge 72, 3) := by decide +kernel
theorem dX12_judged_60 : decode cX12_judged 60 = .ok (.aload_n 0, 1) := by decide +kernel
theorem dX12_judged_61 : decode cX12_judged 61 = .ok (.iload 5, 2) := by decide +kernel
theorem dX12_judged_63 : decode cX12_judged 63 = .ok (.invokevirtual 410, 3) := by decide +kernel
theorem dX12_judged_66 : decode cX12_judged 66 = .ok (.istore 6, 2) := by decide +kernel
theorem dX12_judged_68 : decode cX12_judged 68 = .ok (.iload 6, 2) := by decide +kernel
theorem dX12_judged_70 : decode cX12_judged 70 = .ok (.ifCond .ne 10, 3) := by decide +kernel
theorem dX12_judged_73 : decode cX12_judged 73 = .ok (.iload_n 3, 1) := by decide +kernel
theorem dX12_judged_74 : decode cX12_judged 74 = .ok (.ifCond .ge 6, 3) := by decide +kernel
theorem dX12_judged_77 : decode cX12_judged 77 = .ok (.iload 5, 2) := by decide +kernel
theorem dX12_judged_79 : decode cX12_judged 79 = .ok (.istore_n 3, 1) := by decide +kernel
theorem dX12_judged_80 : decode cX12_judged 80 = .ok (.iload 6, 2) := by decide +kernel
theorem dX12_judged_82 : decode cX12_judged 82 = .ok (.ifCond .eq 41, 3) := by decide +kernel
theorem dX12_judged_85 : decode cX12_judged 85 = .ok (.aload_n 0, 1) := by decide +kernel
theorem dX12_judged_86 : decode cX12_judged 86 = .ok (.getfield 90, 3) := by decide +kernel
theorem dX12_judged_89 : decode cX12_judged 89 = .ok (.iload 5, 2) := by decide +kernel
theorem dX12_judged_91 : decode cX12_judged 91 = .ok (.iaload, 1) := by decide +kernel
theorem dX12_judged_92 : decode cX12_judged 92 = .ok (.ifCond .ne 31, 3) := by decide +kernel
theorem dX12_judged_95 : decode cX12_judged 95 = .ok (.iload 4, 2) := by decide +kernel
theorem dX12_judged_97 : decode cX12_judged 97 = .ok (.ifCond .ge 26, 3) := by decide +kernel
theorem dX12_judged_100 : decode cX12_judged 100 = .ok (.aload_n 0, 1) := by decide +kernel
theorem dX12_judged_101 : decode cX12_judged 101 = .ok (.getfield 23, 3) := by decide +kernel
theorem dX12_judged_104 : decode cX12_judged 104 = .ok (.aload_n 0, 1) := by decide +kernel
theorem dX12_judged_105 : decode cX12_judged 105 = .ok (.getfield 96, 3) := by decide +kernel
theorem dX12_judged_108 : decode cX12_judged 108 = .ok (.iload 5, 2) := by decide +kernel
theorem dX12_judged_110 : decode cX12_judged 110 = .ok (.iaload, 1) := by decide +kernel
theorem dX12_judged_111 : decode cX12_judged 111 = .ok (.iaload, 1) := by decide +kernel
theorem dX12_judged_112 : decode cX12_judged 112 = .ok (.aload_n 0, 1) := by decide +kernel
theorem dX12_judged_113 : decode cX12_judged 113 = .ok (.invokevirtual 413, 3) := by decide +kernel
theorem dX12_judged_116 : decode cX12_judged 116 = .ok (.if_icmp .ne 7, 3) := by decide +kernel
theorem dX12_judged_119 : decode cX12_judged 119 = .ok (.iload 5, 2) := by decide +kernel
theorem dX12_judged_121 : decode cX12_judged 121 = .ok (.istore 4, 2) := by decide +kernel
theorem dX12_judged_123 : decode cX12_judged 123 = .ok (.iinc 5 1, 3) := by decide +kernel
theorem dX12_judged_126 : decode cX12_judged 126 = .ok (.goto (-77), 3) := by decide +kernel
theorem dX12_judged_129 : decode cX12_judged 129 = .ok (.iload_n 2, 1) := by decide +kernel
theorem dX12_judged_130 : decode cX12_judged 130 = .ok (.aload_n 0, 1) := by decide +kernel
theorem dX12_judged_131 : decode cX12_judged 131 = .ok (.bipush 19, 2) := by decide +kernel
theorem dX12_judged_133 : decode cX12_judged 133 = .ok (.invokevirtual 407, 3) := by decide +kernel
theorem dX12_judged_136 : decode cX12_judged 136 = .ok (.isub, 1) := by decide +kernel
theorem dX12_judged_137 : decode cX12_judged 137 = .ok (.istore 5, 2) := by decide +kernel
theorem dX12_judged_139 : decode cX12_judged 139 = .ok (.aload_n 0, 1) := by decide +kernel
theorem dX12_judged_140 : decode cX12_judged 140 = .ok (.getfield 111, 3) := by decide +kernel
theorem dX12_judged_143 : decode cX12_judged 143 = .ok (.iconst 0, 1) := by decide +kernel
theorem dX12_judged_144 : decode cX12_judged 144 = .ok (.aload_n 0, 1) := by decide +kernel
theorem dX12_judged_145 : decode cX12_judged 145 = .ok (.getfield 108, 3) := by decide +kernel
theorem dX12_judged_148 : decode cX12_judged 148 = .ok (.iconst 0, 1) := by decide +kernel
theorem dX12_judged_149 : decode cX12_judged 149 = .ok (.invokestatic 379, 3) := by decide +kernel
theorem dX12_judged_152 : decode cX12_judged 152 = .ok (.iload_n 1, 1) := by decide +kernel
theorem dX12_judged_153 : decode cX12_judged 153 = .ok (.ifCond .ne 7, 3) := by decide +kernel
theorem dX12_judged_156 : decode cX12_judged 156 = .ok (.iload_n 3, 1) := by decide +kernel
theorem dX12_judged_157 : decode cX12_judged 157 = .ok (.goto 15, 3) := by decide +kernel
theorem dX12_judged_160 : decode cX12_judged 160 = .ok (.iload_n 1, 1) := by decide +kernel
theorem dX12_judged_161 : decode cX12_judged 161 = .ok (.iconst 1, 1) := by decide +kernel
theorem dX12_judged_162 : decode cX12_judged 162 = .ok (.if_icmp .ne 8, 3) := by decide +kernel
theorem dX12_judged_165 : decode cX12_judged 165 = .ok (.iload 4, 2) := by decide +kernel
theorem dX12_judged_167 : decode cX12_judged 167 = .ok (.goto 5, 3) := by decide +kernel
theorem dX12_judged_170 : decode cX12_judged 170 = .ok (.iload 5, 2) := by decide +kernel
theorem dX12_judged_172 : decode cX12_judged 172 = .ok (.ireturn, 1) := by decide +kernel
theorem dX12_spreads_0 : decode cX12_spreads 0 = .ok (.iload_n 2, 1) := by decide +kernel
theorem dX12_spreads_1 : decode cX12_spreads 1 = .ok (.istore_n 3, 1) := by decide +kernel
theorem dX12_spreads_2 : decode cX12_spreads 2 = .ok (.iconst 0, 1) := by decide +kernel
theorem dX12_spreads_3 : decode cX12_spreads 3 = .ok (.istore 4, 2) := by decide +kernel
theorem dX12_spreads_5 : decode cX12_spreads 5 = .ok (.iload 4, 2) := by decide +kernel
theorem dX12_spreads_7 : decode cX12_spreads 7 = .ok (.aload_n 0, 1) := by decide +kernel
theorem dX12_spreads_8 : decode cX12_spreads 8 = .ok (.getfield 13, 3) := by decide +kernel
theorem dX12_spreads_11 : decode cX12_spreads 11 = .ok (.iconst 0, 1) := by decide +kernel
theorem dX12_spreads_12 : decode cX12_spreads 12 = .ok (.iaload, 1) := by decide +kernel
theorem dX12_spreads_13 : decode cX12_spreads 13 = .ok (.if_icmp .ge 80, 3) := by decide +kernel
theorem dX12_spreads_16 : decode cX12_spreads 16 = .ok (.iload_n 2, 1) := by decide +kernel
theorem dX12_spreads_17 : decode cX12_spreads 17 = .ok (.iload 4, 2) := by decide +kernel
theorem dX12_spreads_19 : decode cX12_spreads 19 = .ok (.ishr, 1) := by decide +kernel
theorem dX12_spreads_20 : decode cX12_spreads 20 = .ok (.iconst 1, 1) := by decide +kernel
theorem dX12_spreads_21 : decode cX12_spreads 21 = .ok (.iand, 1) := by decide +kernel
theorem dX12_spreads_22 : decode cX12_spreads 22 = .ok (.ifCond .ne 6, 3) := by decide +kernel
theorem dX12_spreads_25 : decode cX12_spreads 25 = .ok (.goto 62, 3) := by decide +kernel
theorem dX12_spreads_28 : decode cX12_spreads 28 = .ok (.iconst 0, 1) := by decide +kernel
theorem dX12_spreads_29 : decode cX12_spreads 29 = .ok (.istore 5, 2) := by decide +kernel
theorem dX12_spreads_31 : decode cX12_spreads 31 = .ok (.iload 5, 2) := by decide +kernel
theorem dX12_spreads_33 : decode cX12_spreads 33 = .ok (.aload_n 0, 1) := by decide +kernel
theorem dX12_spreads_34 : decode cX12_spreads 34 = .ok (.getfield 13, 3) := by decide +kernel
theorem dX12_spreads_37 : decode cX12_spreads 37 = .ok (.iconst 0, 1) := by decide +kernel
theorem dX12_spreads_38 : decode cX12_spreads 38 = .ok (.iaload, 1) := by decide +kernel
theorem dX12_spreads_39 : decode cX12_spreads 39 = .ok (.if_icmp .ge 48, 3) := by decide +kernel
theorem dX12_spreads_42 : decode cX12_spreads 42 = .ok (.iload_n 3, 1) := by decide +kernel
theorem dX12_spreads_43 : decode cX12_spreads 43 = .ok (.aload_n 0, 1) := by decide +kernel
theorem dX12_spreads_44 : decode cX12_spreads 44 = .ok (.getfield 26, 3) := by decide +kernel
theorem dX12_spreads_47 : decode cX12_spreads 47 = .ok (.iload 4, 2) := by decide +kernel
theorem dX12_spreads_49 : decode cX12_spreads 49 = .ok (.iaload, 1) := by decide +kernel
theorem dX12_spreads_50 : decode cX12_spreads 50 = .ok (.iload 5, 2) := by decide +kernel
theorem dX12_spreads_52 : decode cX12_spreads 52 = .ok (.ishr, 1) := by decide +kernel
theorem dX12_spreads_53 : decode cX12_spreads 53 = .ok (.iconst 1, 1) := by decide +kernel
theorem dX12_spreads_54 : decode cX12_spreads 54 = .ok (.iand, 1) := by decide +kernel
theorem dX12_spreads_55 : decode cX12_spreads 55 = .ok (.iconst 1, 1) := by decide +kernel
theorem dX12_spreads_56 : decode cX12_spreads 56 = .ok (.if_icmp .ne 22, 3) := by decide +kernel
theorem dX12_spreads_59 : decode cX12_spreads 59 = .ok (.aload_n 0, 1) := by decide +kernel
theorem dX12_spreads_60 : decode cX12_spreads 60 = .ok (.iload 5, 2) := by decide +kernel
theorem dX12_spreads_62 : decode cX12_spreads 62 = .ok (.iload_n 1, 1) := by decide +kernel
theorem dX12_spreads_63 : decode cX12_spreads 63 = .ok (.iload 4, 2) := by decide +kernel
theorem dX12_spreads_65 : decode cX12_spreads 65 = .ok (.invokevirtual 362, 3) := by decide +kernel
theorem dX12_spreads_68 : decode cX12_spreads 68 = .ok (.ifCond .eq 10, 3) := by decide +kernel
theorem dX12_spreads_71 : decode cX12_spreads 71 = .ok (.iconst 1, 1) := by decide +kernel
theorem dX12_spreads_72 : decode cX12_spreads 72 = .ok (.iload 5, 2) := by decide +kernel
theorem dX12_spreads_74 : decode cX12_spreads 74 = .ok (.ishl, 1) := by decide +kernel
theorem dX12_spreads_75 : decode cX12_spreads 75 = .ok (.goto 4, 3) := by decide +kernel
theorem dX12_spreads_78 : decode cX12_spreads 78 = .ok (.iconst 0, 1) := by decide +kernel
theorem dX12_spreads_79 : decode cX12_spreads 79 = .ok (.ior, 1) := by decide +kernel
theorem dX12_spreads_80 : decode cX12_spreads 80 = .ok (.istore_n 3, 1) := by decide +kernel
theorem dX12_spreads_81 : decode cX12_spreads 81 = .ok (.iinc 5 1, 3) := by decide +kernel
theorem dX12_spreads_84 : decode cX12_spreads 84 = .ok (.goto (-53), 3) := by decide +kernel
theorem dX12_spreads_87 : decode cX12_spreads 87 = .ok (.iinc 4 1, 3) := by decide +kernel
theorem dX12_spreads_90 : decode cX12_spreads 90 = .ok (.goto (-85), 3) := by decide +kernel
theorem dX12_spreads_93 : decode cX12_spreads 93 = .ok (.iload_n 3, 1) := by decide +kernel
theorem dX12_spreads_94 : decode cX12_spreads 94 = .ok (.ireturn, 1) := by decide +kernel
theorem dX12_reachFrom_0 : decode cX12_reachFrom 0 = .ok (.iload_n 2, 1) := by decide +kernel
theorem dX12_reachFrom_1 : decode cX12_reachFrom 1 = .ok (.istore_n 3, 1) := by decide +kernel
theorem dX12_reachFrom_2 : decode cX12_reachFrom 2 = .ok (.iconst 0, 1) := by decide +kernel
theorem dX12_reachFrom_3 : decode cX12_reachFrom 3 = .ok (.istore 4, 2) := by decide +kernel
theorem dX12_reachFrom_5 : decode cX12_reachFrom 5 = .ok (.iload_n 3, 1) := by decide +kernel
theorem dX12_reachFrom_6 : decode cX12_reachFrom 6 = .ok (.iload 4, 2) := by decide +kernel
theorem dX12_reachFrom_8 : decode cX12_reachFrom 8 = .ok (.if_icmp .eq 17, 3) := by decide +kernel
theorem dX12_reachFrom_11 : decode cX12_reachFrom 11 = .ok (.iload_n 3, 1) := by decide +kernel
theorem dX12_reachFrom_12 : decode cX12_reachFrom 12 = .ok (.istore 4, 2) := by decide +kernel
theorem dX12_reachFrom_14 : decode cX12_reachFrom 14 = .ok (.aload_n 0, 1) := by decide +kernel
theorem dX12_reachFrom_15 : decode cX12_reachFrom 15 = .ok (.iload_n 1, 1) := by decide +kernel
theorem dX12_reachFrom_16 : decode cX12_reachFrom 16 = .ok (.iload 4, 2) := by decide +kernel
theorem dX12_reachFrom_18 : decode cX12_reachFrom 18 = .ok (.invokevirtual 416, 3) := by decide +kernel
theorem dX12_reachFrom_21 : decode cX12_reachFrom 21 = .ok (.istore_n 3, 1) := by decide +kernel
theorem dX12_reachFrom_22 : decode cX12_reachFrom 22 = .ok (.goto (-17), 3) := by decide +kernel
theorem dX12_reachFrom_25 : decode cX12_reachFrom 25 = .ok (.iload_n 3, 1) := by decide +kernel
theorem dX12_reachFrom_26 : decode cX12_reachFrom 26 = .ok (.ireturn, 1) := by decide +kernel
theorem dX12_reach_0 : decode cX12_reach 0 = .ok (.aload_n 0, 1) := by decide +kernel
theorem dX12_reach_1 : decode cX12_reach 1 = .ok (.iconst 0, 1) := by decide +kernel
theorem dX12_reach_2 : decode cX12_reach 2 = .ok (.putfield 129, 3) := by decide +kernel
theorem dX12_reach_5 : decode cX12_reach 5 = .ok (.aload_n 0, 1) := by decide +kernel
theorem dX12_reach_6 : decode cX12_reach 6 = .ok (.iload_n 1, 1) := by decide +kernel
theorem dX12_reach_7 : decode cX12_reach 7 = .ok (.invokevirtual 370, 3) := by decide +kernel
theorem dX12_reach_10 : decode cX12_reach 10 = .ok (.ifCond .eq 21, 3) := by decide +kernel
theorem dX12_reach_13 : decode cX12_reach 13 = .ok (.aload_n 0, 1) := by decide +kernel
theorem dX12_reach_14 : decode cX12_reach 14 = .ok (.iload_n 1, 1) := by decide +kernel
theorem dX12_reach_15 : decode cX12_reach 15 = .ok (.iconst 1, 1) := by decide +kernel
theorem dX12_reach_16 : decode cX12_reach 16 = .ok (.aload_n 0, 1) := by decide +kernel
theorem dX12_reach_17 : decode cX12_reach 17 = .ok (.getfield 108, 3) := by decide +kernel
theorem dX12_reach_20 : decode cX12_reach 20 = .ok (.iconst 1, 1) := by decide +kernel
theorem dX12_reach_21 : decode cX12_reach 21 = .ok (.iload_n 1, 1) := by decide +kernel
theorem dX12_reach_22 : decode cX12_reach 22 = .ok (.iadd, 1) := by decide +kernel
theorem dX12_reach_23 : decode cX12_reach 23 = .ok (.iaload, 1) := by decide +kernel
theorem dX12_reach_24 : decode cX12_reach 24 = .ok (.ishl, 1) := by decide +kernel
theorem dX12_reach_25 : decode cX12_reach 25 = .ok (.invokevirtual 419, 3) := by decide +kernel
theorem dX12_reach_28 : decode cX12_reach 28 = .ok (.goto 4, 3) := by decide +kernel
theorem dX12_reach_31 : decode cX12_reach 31 = .ok (.iconst (-1), 1) := by decide +kernel
theorem dX12_reach_32 : decode cX12_reach 32 = .ok (.ireturn, 1) := by decide +kernel
theorem dX12_farFrom_0 : decode cX12_farFrom 0 = .ok (.iconst 1, 1) := by decide +kernel
theorem dX12_farFrom_1 : decode cX12_farFrom 1 = .ok (.iload_n 2, 1) := by decide +kernel
theorem dX12_farFrom_2 : decode cX12_farFrom 2 = .ok (.ishl, 1) := by decide +kernel
theorem dX12_farFrom_3 : decode cX12_farFrom 3 = .ok (.istore 4, 2) := by decide +kernel
theorem dX12_farFrom_5 : decode cX12_farFrom 5 = .ok (.iconst 0, 1) := by decide +kernel
theorem dX12_farFrom_6 : decode cX12_farFrom 6 = .ok (.istore 5, 2) := by decide +kernel
theorem dX12_farFrom_8 : decode cX12_farFrom 8 = .ok (.iload 5, 2) := by decide +kernel
theorem dX12_farFrom_10 : decode cX12_farFrom 10 = .ok (.bipush 6, 2) := by decide +kernel
theorem dX12_farFrom_12 : decode cX12_farFrom 12 = .ok (.if_icmp .ge 31, 3) := by decide +kernel
theorem dX12_farFrom_15 : decode cX12_farFrom 15 = .ok (.iload 4, 2) := by decide +kernel
theorem dX12_farFrom_17 : decode cX12_farFrom 17 = .ok (.iload_n 3, 1) := by decide +kernel
theorem dX12_farFrom_18 : decode cX12_farFrom 18 = .ok (.ishr, 1) := by decide +kernel
theorem dX12_farFrom_19 : decode cX12_farFrom 19 = .ok (.iconst 1, 1) := by decide +kernel
theorem dX12_farFrom_20 : decode cX12_farFrom 20 = .ok (.iand, 1) := by decide +kernel
theorem dX12_farFrom_21 : decode cX12_farFrom 21 = .ok (.iconst 1, 1) := by decide +kernel
theorem dX12_farFrom_22 : decode cX12_farFrom 22 = .ok (.if_icmp .ne 6, 3) := by decide +kernel
theorem dX12_farFrom_25 : decode cX12_farFrom 25 = .ok (.iload 5, 2) := by decide +kernel
theorem dX12_farFrom_27 : decode cX12_farFrom 27 = .ok (.ireturn, 1) := by decide +kernel
theorem dX12_farFrom_28 : decode cX12_farFrom 28 = .ok (.aload_n 0, 1) := by decide +kernel
theorem dX12_farFrom_29 : decode cX12_farFrom 29 = .ok (.iload_n 1, 1) := by decide +kernel
theorem dX12_farFrom_30 : decode cX12_farFrom 30 = .ok (.iload 4, 2) := by decide +kernel
theorem dX12_farFrom_32 : decode cX12_farFrom 32 = .ok (.invokevirtual 416, 3) := by decide +kernel
theorem dX12_farFrom_35 : decode cX12_farFrom 35 = .ok (.istore 4, 2) := by decide +kernel
theorem dX12_farFrom_37 : decode cX12_farFrom 37 = .ok (.iinc 5 1, 3) := by decide +kernel
theorem dX12_farFrom_40 : decode cX12_farFrom 40 = .ok (.goto (-32), 3) := by decide +kernel
theorem dX12_farFrom_43 : decode cX12_farFrom 43 = .ok (.iconst (-1), 1) := by decide +kernel
theorem dX12_farFrom_44 : decode cX12_farFrom 44 = .ok (.ireturn, 1) := by decide +kernel
theorem dX12_frontiers_0 : decode cX12_frontiers 0 = .ok (.aload_n 0, 1) := by decide +kernel
theorem dX12_frontiers_1 : decode cX12_frontiers 1 = .ok (.iconst 0, 1) := by decide +kernel
theorem dX12_frontiers_2 : decode cX12_frontiers 2 = .ok (.putfield 129, 3) := by decide +kernel
theorem dX12_frontiers_5 : decode cX12_frontiers 5 = .ok (.aload_n 0, 1) := by decide +kernel
theorem dX12_frontiers_6 : decode cX12_frontiers 6 = .ok (.iload_n 1, 1) := by decide +kernel
theorem dX12_frontiers_7 : decode cX12_frontiers 7 = .ok (.invokevirtual 370, 3) := by decide +kernel
theorem dX12_frontiers_10 : decode cX12_frontiers 10 = .ok (.ifCond .eq 28, 3) := by decide +kernel
theorem dX12_frontiers_13 : decode cX12_frontiers 13 = .ok (.aload_n 0, 1) := by decide +kernel
theorem dX12_frontiers_14 : decode cX12_frontiers 14 = .ok (.iload_n 2, 1) := by decide +kernel
theorem dX12_frontiers_15 : decode cX12_frontiers 15 = .ok (.invokevirtual 373, 3) := by decide +kernel
theorem dX12_frontiers_18 : decode cX12_frontiers 18 = .ok (.ifCond .eq 20, 3) := by decide +kernel
theorem dX12_frontiers_21 : decode cX12_frontiers 21 = .ok (.aload_n 0, 1) := by decide +kernel
theorem dX12_frontiers_22 : decode cX12_frontiers 22 = .ok (.iload_n 1, 1) := by decide +kernel
theorem dX12_frontiers_23 : decode cX12_frontiers 23 = .ok (.aload_n 0, 1) := by decide +kernel
theorem dX12_frontiers_24 : decode cX12_frontiers 24 = .ok (.getfield 108, 3) := by decide +kernel
theorem dX12_frontiers_27 : decode cX12_frontiers 27 = .ok (.iconst 1, 1) := by decide +kernel
theorem dX12_frontiers_28 : decode cX12_frontiers 28 = .ok (.iload_n 1, 1) := by decide +kernel
theorem dX12_frontiers_29 : decode cX12_frontiers 29 = .ok (.iadd, 1) := by decide +kernel
theorem dX12_frontiers_30 : decode cX12_frontiers 30 = .ok (.iaload, 1) := by decide +kernel
theorem dX12_frontiers_31 : decode cX12_frontiers 31 = .ok (.iload_n 2, 1) := by decide +kernel
theorem dX12_frontiers_32 : decode cX12_frontiers 32 = .ok (.invokevirtual 422, 3) := by decide +kernel
theorem dX12_frontiers_35 : decode cX12_frontiers 35 = .ok (.goto 4, 3) := by decide +kernel
theorem dX12_frontiers_38 : decode cX12_frontiers 38 = .ok (.iconst (-1), 1) := by decide +kernel
theorem dX12_frontiers_39 : decode cX12_frontiers 39 = .ok (.ireturn, 1) := by decide +kernel
theorem dX12_guide_0 : decode cX12_guide 0 = .ok (.aload_n 0, 1) := by decide +kernel
theorem dX12_guide_1 : decode cX12_guide 1 = .ok (.iconst 0, 1) := by decide +kernel
theorem dX12_guide_2 : decode cX12_guide 2 = .ok (.putfield 129, 3) := by decide +kernel
theorem dX12_guide_5 : decode cX12_guide 5 = .ok (.aload_n 0, 1) := by decide +kernel
theorem dX12_guide_6 : decode cX12_guide 6 = .ok (.iload_n 1, 1) := by decide +kernel
theorem dX12_guide_7 : decode cX12_guide 7 = .ok (.invokevirtual 370, 3) := by decide +kernel
theorem dX12_guide_10 : decode cX12_guide 10 = .ok (.ifCond .eq 28, 3) := by decide +kernel
theorem dX12_guide_13 : decode cX12_guide 13 = .ok (.aload_n 0, 1) := by decide +kernel
theorem dX12_guide_14 : decode cX12_guide 14 = .ok (.iload_n 2, 1) := by decide +kernel
theorem dX12_guide_15 : decode cX12_guide 15 = .ok (.invokevirtual 373, 3) := by decide +kernel
theorem dX12_guide_18 : decode cX12_guide 18 = .ok (.ifCond .eq 20, 3) := by decide +kernel
theorem dX12_guide_21 : decode cX12_guide 21 = .ok (.aload_n 0, 1) := by decide +kernel
theorem dX12_guide_22 : decode cX12_guide 22 = .ok (.iload_n 1, 1) := by decide +kernel
theorem dX12_guide_23 : decode cX12_guide 23 = .ok (.aload_n 0, 1) := by decide +kernel
theorem dX12_guide_24 : decode cX12_guide 24 = .ok (.getfield 108, 3) := by decide +kernel
theorem dX12_guide_27 : decode cX12_guide 27 = .ok (.iconst 1, 1) := by decide +kernel
theorem dX12_guide_28 : decode cX12_guide 28 = .ok (.iload_n 1, 1) := by decide +kernel
theorem dX12_guide_29 : decode cX12_guide 29 = .ok (.iadd, 1) := by decide +kernel
theorem dX12_guide_30 : decode cX12_guide 30 = .ok (.iaload, 1) := by decide +kernel
theorem dX12_guide_31 : decode cX12_guide 31 = .ok (.iload_n 2, 1) := by decide +kernel
theorem dX12_guide_32 : decode cX12_guide 32 = .ok (.invokevirtual 422, 3) := by decide +kernel
theorem dX12_guide_35 : decode cX12_guide 35 = .ok (.goto 4, 3) := by decide +kernel
theorem dX12_guide_38 : decode cX12_guide 38 = .ok (.iconst 0, 1) := by decide +kernel
theorem dX12_guide_39 : decode cX12_guide 39 = .ok (.istore_n 3, 1) := by decide +kernel
theorem dX12_guide_40 : decode cX12_guide 40 = .ok (.iload_n 3, 1) := by decide +kernel
theorem dX12_guide_41 : decode cX12_guide 41 = .ok (.ifCond .gt 5, 3) := by decide +kernel
theorem dX12_guide_44 : decode cX12_guide 44 = .ok (.iconst (-1), 1) := by decide +kernel
theorem dX12_guide_45 : decode cX12_guide 45 = .ok (.ireturn, 1) := by decide +kernel
theorem dX12_guide_46 : decode cX12_guide 46 = .ok (.iconst (-1), 1) := by decide +kernel
theorem dX12_guide_47 : decode cX12_guide 47 = .ok (.istore 4, 2) := by decide +kernel
theorem dX12_guide_49 : decode cX12_guide 49 = .ok (.aload_n 0, 1) := by decide +kernel
theorem dX12_guide_50 : decode cX12_guide 50 = .ok (.getfield 13, 3) := by decide +kernel
theorem dX12_guide_53 : decode cX12_guide 53 = .ok (.iconst 0, 1) := by decide +kernel
theorem dX12_guide_54 : decode cX12_guide 54 = .ok (.iaload, 1) := by decide +kernel
theorem dX12_guide_55 : decode cX12_guide 55 = .ok (.iconst 1, 1) := by decide +kernel
theorem dX12_guide_56 : decode cX12_guide 56 = .ok (.isub, 1) := by decide +kernel
theorem dX12_guide_57 : decode cX12_guide 57 = .ok (.istore 5, 2) := by decide +kernel
theorem dX12_guide_59 : decode cX12_guide 59 = .ok (.iload 5, 2) := by decide +kernel
theorem dX12_guide_61 : decode cX12_guide 61 = .ok (.ifCond .lt 37, 3) := by decide +kernel
theorem dX12_guide_64 : decode cX12_guide 64 = .ok (.aload_n 0, 1) := by decide +kernel
theorem dX12_guide_65 : decode cX12_guide 65 = .ok (.iload_n 1, 1) := by decide +kernel
theorem dX12_guide_66 : decode cX12_guide 66 = .ok (.iload 5, 2) := by decide +kernel
theorem dX12_guide_68 : decode cX12_guide 68 = .ok (.invokevirtual 383, 3) := by decide +kernel
theorem dX12_guide_71 : decode cX12_guide 71 = .ok (.ifCond .eq 21, 3) := by decide +kernel
theorem dX12_guide_74 : decode cX12_guide 74 = .ok (.aload_n 0, 1) := by decide +kernel
theorem dX12_guide_75 : decode cX12_guide 75 = .ok (.iload_n 1, 1) := by decide +kernel
theorem dX12_guide_76 : decode cX12_guide 76 = .ok (.iload 5, 2) := by decide +kernel
theorem dX12_guide_78 : decode cX12_guide 78 = .ok (.iload_n 2, 1) := by decide +kernel
theorem dX12_guide_79 : decode cX12_guide 79 = .ok (.invokevirtual 422, 3) := by decide +kernel
theorem dX12_guide_82 : decode cX12_guide 82 = .ok (.iload_n 3, 1) := by decide +kernel
theorem dX12_guide_83 : decode cX12_guide 83 = .ok (.iconst 1, 1) := by decide +kernel
theorem dX12_guide_84 : decode cX12_guide 84 = .ok (.isub, 1) := by decide +kernel
theorem dX12_guide_85 : decode cX12_guide 85 = .ok (.if_icmp .ne 7, 3) := by decide +kernel
theorem dX12_guide_88 : decode cX12_guide 88 = .ok (.iload 5, 2) := by decide +kernel
theorem dX12_guide_90 : decode cX12_guide 90 = .ok (.istore 4, 2) := by decide +kernel
theorem dX12_guide_92 : decode cX12_guide 92 = .ok (.iinc 5 (-1), 3) := by decide +kernel
theorem dX12_guide_95 : decode cX12_guide 95 = .ok (.goto (-36), 3) := by decide +kernel
theorem dX12_guide_98 : decode cX12_guide 98 = .ok (.iload 4, 2) := by decide +kernel
theorem dX12_guide_100 : decode cX12_guide 100 = .ok (.ireturn, 1) := by decide +kernel
theorem dX12_trapped_0 : decode cX12_trapped 0 = .ok (.aload_n 0, 1) := by decide +kernel
theorem dX12_trapped_1 : decode cX12_trapped 1 = .ok (.iconst 0, 1) := by decide +kernel
theorem dX12_trapped_2 : decode cX12_trapped 2 = .ok (.putfield 129, 3) := by decide +kernel
theorem dX12_trapped_5 : decode cX12_trapped 5 = .ok (.iconst 0, 1) := by decide +kernel
theorem dX12_trapped_6 : decode cX12_trapped 6 = .ok (.istore_n 1, 1) := by decide +kernel
theorem dX12_trapped_7 : decode cX12_trapped 7 = .ok (.iconst 0, 1) := by decide +kernel
theorem dX12_trapped_8 : decode cX12_trapped 8 = .ok (.istore_n 2, 1) := by decide +kernel
theorem dX12_trapped_9 : decode cX12_trapped 9 = .ok (.iload_n 2, 1) := by decide +kernel
theorem dX12_trapped_10 : decode cX12_trapped 10 = .ok (.aload_n 0, 1) := by decide +kernel
theorem dX12_trapped_11 : decode cX12_trapped 11 = .ok (.getfield 13, 3) := by decide +kernel
theorem dX12_trapped_14 : decode cX12_trapped 14 = .ok (.iconst 1, 1) := by decide +kernel
theorem dX12_trapped_15 : decode cX12_trapped 15 = .ok (.iaload, 1) := by decide +kernel
theorem dX12_trapped_16 : decode cX12_trapped 16 = .ok (.if_icmp .ge 65, 3) := by decide +kernel
theorem dX12_trapped_19 : decode cX12_trapped 19 = .ok (.iconst 1, 1) := by decide +kernel
theorem dX12_trapped_20 : decode cX12_trapped 20 = .ok (.istore_n 3, 1) := by decide +kernel
theorem dX12_trapped_21 : decode cX12_trapped 21 = .ok (.iconst 0, 1) := by decide +kernel
theorem dX12_trapped_22 : decode cX12_trapped 22 = .ok (.istore 4, 2) := by decide +kernel
theorem dX12_trapped_24 : decode cX12_trapped 24 = .ok (.iload 4, 2) := by decide +kernel
theorem dX12_trapped_26 : decode cX12_trapped 26 = .ok (.aload_n 0, 1) := by decide +kernel
theorem dX12_trapped_27 : decode cX12_trapped 27 = .ok (.getfield 13, 3) := by decide +kernel
theorem dX12_trapped_30 : decode cX12_trapped 30 = .ok (.iconst 0, 1) := by decide +kernel
theorem dX12_trapped_31 : decode cX12_trapped 31 = .ok (.iaload, 1) := by decide +kernel
theorem dX12_trapped_32 : decode cX12_trapped 32 = .ok (.if_icmp .ge 29, 3) := by decide +kernel
theorem dX12_trapped_35 : decode cX12_trapped 35 = .ok (.iload_n 3, 1) := by decide +kernel
theorem dX12_trapped_36 : decode cX12_trapped 36 = .ok (.ifCond .eq 17, 3) := by decide +kernel
theorem dX12_trapped_39 : decode cX12_trapped 39 = .ok (.aload_n 0, 1) := by decide +kernel
theorem dX12_trapped_40 : decode cX12_trapped 40 = .ok (.iload_n 2, 1) := by decide +kernel
theorem dX12_trapped_41 : decode cX12_trapped 41 = .ok (.iload 4, 2) := by decide +kernel
theorem dX12_trapped_43 : decode cX12_trapped 43 = .ok (.invokevirtual 383, 3) := by decide +kernel
theorem dX12_trapped_46 : decode cX12_trapped 46 = .ok (.ifCond .ne 7, 3) := by decide +kernel
theorem dX12_trapped_49 : decode cX12_trapped 49 = .ok (.iconst 1, 1) := by decide +kernel
theorem dX12_trapped_50 : decode cX12_trapped 50 = .ok (.goto 4, 3) := by decide +kernel
theorem dX12_trapped_53 : decode cX12_trapped 53 = .ok (.iconst 0, 1) := by decide +kernel
theorem dX12_trapped_54 : decode cX12_trapped 54 = .ok (.istore_n 3, 1) := by decide +kernel
theorem dX12_trapped_55 : decode cX12_trapped 55 = .ok (.iinc 4 1, 3) := by decide +kernel
theorem dX12_trapped_58 : decode cX12_trapped 58 = .ok (.goto (-34), 3) := by decide +kernel
theorem dX12_trapped_61 : decode cX12_trapped 61 = .ok (.iload_n 1, 1) := by decide +kernel
theorem dX12_trapped_62 : decode cX12_trapped 62 = .ok (.iload_n 3, 1) := by decide +kernel
theorem dX12_trapped_63 : decode cX12_trapped 63 = .ok (.ifCond .eq 9, 3) := by decide +kernel
theorem dX12_trapped_66 : decode cX12_trapped 66 = .ok (.iconst 1, 1) := by decide +kernel
theorem dX12_trapped_67 : decode cX12_trapped 67 = .ok (.iload_n 2, 1) := by decide +kernel
theorem dX12_trapped_68 : decode cX12_trapped 68 = .ok (.ishl, 1) := by decide +kernel
theorem dX12_trapped_69 : decode cX12_trapped 69 = .ok (.goto 4, 3) := by decide +kernel
theorem dX12_trapped_72 : decode cX12_trapped 72 = .ok (.iconst 0, 1) := by decide +kernel
theorem dX12_trapped_73 : decode cX12_trapped 73 = .ok (.ior, 1) := by decide +kernel
theorem dX12_trapped_74 : decode cX12_trapped 74 = .ok (.istore_n 1, 1) := by decide +kernel
theorem dX12_trapped_75 : decode cX12_trapped 75 = .ok (.iinc 2 1, 3) := by decide +kernel
theorem dX12_trapped_78 : decode cX12_trapped 78 = .ok (.goto (-69), 3) := by decide +kernel
theorem dX12_trapped_81 : decode cX12_trapped 81 = .ok (.iload_n 1, 1) := by decide +kernel
theorem dX12_trapped_82 : decode cX12_trapped 82 = .ok (.ireturn, 1) := by decide +kernel
theorem dX12_whenAt_0 : decode cX12_whenAt 0 = .ok (.aload_n 0, 1) := by decide +kernel
theorem dX12_whenAt_1 : decode cX12_whenAt 1 = .ok (.getfield 108, 3) := by decide +kernel
theorem dX12_whenAt_4 : decode cX12_whenAt 4 = .ok (.iconst 0, 1) := by decide +kernel
theorem dX12_whenAt_5 : decode cX12_whenAt 5 = .ok (.aload_n 0, 1) := by decide +kernel
theorem dX12_whenAt_6 : decode cX12_whenAt 6 = .ok (.getfield 114, 3) := by decide +kernel
theorem dX12_whenAt_9 : decode cX12_whenAt 9 = .ok (.iconst 0, 1) := by decide +kernel
theorem dX12_whenAt_10 : decode cX12_whenAt 10 = .ok (.invokestatic 379, 3) := by decide +kernel
theorem dX12_whenAt_13 : decode cX12_whenAt 13 = .ok (.aload_n 0, 1) := by decide +kernel
theorem dX12_whenAt_14 : decode cX12_whenAt 14 = .ok (.iload_n 1, 1) := by decide +kernel
theorem dX12_whenAt_15 : decode cX12_whenAt 15 = .ok (.iconst 1, 1) := by decide +kernel
theorem dX12_whenAt_16 : decode cX12_whenAt 16 = .ok (.aload_n 0, 1) := by decide +kernel
theorem dX12_whenAt_17 : decode cX12_whenAt 17 = .ok (.getfield 108, 3) := by decide +kernel
theorem dX12_whenAt_20 : decode cX12_whenAt 20 = .ok (.iconst 1, 1) := by decide +kernel
theorem dX12_whenAt_21 : decode cX12_whenAt 21 = .ok (.iload_n 1, 1) := by decide +kernel
theorem dX12_whenAt_22 : decode cX12_whenAt 22 = .ok (.iadd, 1) := by decide +kernel
theorem dX12_whenAt_23 : decode cX12_whenAt 23 = .ok (.iaload, 1) := by decide +kernel
theorem dX12_whenAt_24 : decode cX12_whenAt 24 = .ok (.ishl, 1) := by decide +kernel
theorem dX12_whenAt_25 : decode cX12_whenAt 25 = .ok (.invokevirtual 419, 3) := by decide +kernel
theorem dX12_whenAt_28 : decode cX12_whenAt 28 = .ok (.istore_n 3, 1) := by decide +kernel
theorem dX12_whenAt_29 : decode cX12_whenAt 29 = .ok (.iconst 0, 1) := by decide +kernel
theorem dX12_whenAt_30 : decode cX12_whenAt 30 = .ok (.istore 4, 2) := by decide +kernel
theorem dX12_whenAt_32 : decode cX12_whenAt 32 = .ok (.iload 4, 2) := by decide +kernel
theorem dX12_whenAt_34 : decode cX12_whenAt 34 = .ok (.bipush 100, 2) := by decide +kernel
theorem dX12_whenAt_36 : decode cX12_whenAt 36 = .ok (.if_icmp .ge 28, 3) := by decide +kernel
theorem dX12_whenAt_39 : decode cX12_whenAt 39 = .ok (.iload_n 3, 1) := by decide +kernel
theorem dX12_whenAt_40 : decode cX12_whenAt 40 = .ok (.iload_n 2, 1) := by decide +kernel
theorem dX12_whenAt_41 : decode cX12_whenAt 41 = .ok (.ishr, 1) := by decide +kernel
theorem dX12_whenAt_42 : decode cX12_whenAt 42 = .ok (.iconst 1, 1) := by decide +kernel
theorem dX12_whenAt_43 : decode cX12_whenAt 43 = .ok (.iand, 1) := by decide +kernel
theorem dX12_whenAt_44 : decode cX12_whenAt 44 = .ok (.ifCond .ne 20, 3) := by decide +kernel
theorem dX12_whenAt_47 : decode cX12_whenAt 47 = .ok (.aload_n 0, 1) := by decide +kernel
theorem dX12_whenAt_48 : decode cX12_whenAt 48 = .ok (.invokevirtual 401, 3) := by decide +kernel
theorem dX12_whenAt_51 : decode cX12_whenAt 51 = .ok (.iinc 4 1, 3) := by decide +kernel
theorem dX12_whenAt_54 : decode cX12_whenAt 54 = .ok (.aload_n 0, 1) := by decide +kernel
theorem dX12_whenAt_55 : decode cX12_whenAt 55 = .ok (.iload_n 1, 1) := by decide +kernel
theorem dX12_whenAt_56 : decode cX12_whenAt 56 = .ok (.iload_n 3, 1) := by decide +kernel
theorem dX12_whenAt_57 : decode cX12_whenAt 57 = .ok (.invokevirtual 419, 3) := by decide +kernel
theorem dX12_whenAt_60 : decode cX12_whenAt 60 = .ok (.istore_n 3, 1) := by decide +kernel
theorem dX12_whenAt_61 : decode cX12_whenAt 61 = .ok (.goto (-29), 3) := by decide +kernel
theorem dX12_whenAt_64 : decode cX12_whenAt 64 = .ok (.aload_n 0, 1) := by decide +kernel
theorem dX12_whenAt_65 : decode cX12_whenAt 65 = .ok (.getfield 114, 3) := by decide +kernel
theorem dX12_whenAt_68 : decode cX12_whenAt 68 = .ok (.iconst 0, 1) := by decide +kernel
theorem dX12_whenAt_69 : decode cX12_whenAt 69 = .ok (.aload_n 0, 1) := by decide +kernel
theorem dX12_whenAt_70 : decode cX12_whenAt 70 = .ok (.getfield 108, 3) := by decide +kernel
theorem dX12_whenAt_73 : decode cX12_whenAt 73 = .ok (.iconst 0, 1) := by decide +kernel
theorem dX12_whenAt_74 : decode cX12_whenAt 74 = .ok (.invokestatic 379, 3) := by decide +kernel
theorem dX12_whenAt_77 : decode cX12_whenAt 77 = .ok (.iload 4, 2) := by decide +kernel
theorem dX12_whenAt_79 : decode cX12_whenAt 79 = .ok (.bipush 99, 2) := by decide +kernel
theorem dX12_whenAt_81 : decode cX12_whenAt 81 = .ok (.if_icmp .le 7, 3) := by decide +kernel
theorem dX12_whenAt_84 : decode cX12_whenAt 84 = .ok (.iconst (-1), 1) := by decide +kernel
theorem dX12_whenAt_85 : decode cX12_whenAt 85 = .ok (.goto 5, 3) := by decide +kernel
theorem dX12_whenAt_88 : decode cX12_whenAt 88 = .ok (.iload 4, 2) := by decide +kernel
theorem dX12_whenAt_90 : decode cX12_whenAt 90 = .ok (.ireturn, 1) := by decide +kernel
theorem dX12_when_0 : decode cX12_when 0 = .ok (.aload_n 0, 1) := by decide +kernel
theorem dX12_when_1 : decode cX12_when 1 = .ok (.iconst 0, 1) := by decide +kernel
theorem dX12_when_2 : decode cX12_when 2 = .ok (.putfield 129, 3) := by decide +kernel
theorem dX12_when_5 : decode cX12_when 5 = .ok (.aload_n 0, 1) := by decide +kernel
theorem dX12_when_6 : decode cX12_when 6 = .ok (.iload_n 1, 1) := by decide +kernel
theorem dX12_when_7 : decode cX12_when 7 = .ok (.invokevirtual 370, 3) := by decide +kernel
theorem dX12_when_10 : decode cX12_when 10 = .ok (.ifCond .eq 20, 3) := by decide +kernel
theorem dX12_when_13 : decode cX12_when 13 = .ok (.aload_n 0, 1) := by decide +kernel
theorem dX12_when_14 : decode cX12_when 14 = .ok (.iload_n 2, 1) := by decide +kernel
theorem dX12_when_15 : decode cX12_when 15 = .ok (.invokevirtual 373, 3) := by decide +kernel
theorem dX12_when_18 : decode cX12_when 18 = .ok (.ifCond .eq 12, 3) := by decide +kernel
theorem dX12_when_21 : decode cX12_when 21 = .ok (.aload_n 0, 1) := by decide +kernel
theorem dX12_when_22 : decode cX12_when 22 = .ok (.iload_n 1, 1) := by decide +kernel
theorem dX12_when_23 : decode cX12_when 23 = .ok (.iload_n 2, 1) := by decide +kernel
theorem dX12_when_24 : decode cX12_when 24 = .ok (.invokevirtual 426, 3) := by decide +kernel
theorem dX12_when_27 : decode cX12_when 27 = .ok (.goto 4, 3) := by decide +kernel
theorem dX12_when_30 : decode cX12_when 30 = .ok (.iconst (-1), 1) := by decide +kernel
theorem dX12_when_31 : decode cX12_when 31 = .ok (.ireturn, 1) := by decide +kernel
theorem dX12_roams_0 : decode cX12_roams 0 = .ok (.iconst 1, 1) := by decide +kernel
theorem dX12_roams_1 : decode cX12_roams 1 = .ok (.aload_n 0, 1) := by decide +kernel
theorem dX12_roams_2 : decode cX12_roams 2 = .ok (.getfield 13, 3) := by decide +kernel
theorem dX12_roams_5 : decode cX12_roams 5 = .ok (.iconst 0, 1) := by decide +kernel
theorem dX12_roams_6 : decode cX12_roams 6 = .ok (.iaload, 1) := by decide +kernel
theorem dX12_roams_7 : decode cX12_roams 7 = .ok (.ishl, 1) := by decide +kernel
theorem dX12_roams_8 : decode cX12_roams 8 = .ok (.iconst 1, 1) := by decide +kernel
theorem dX12_roams_9 : decode cX12_roams 9 = .ok (.isub, 1) := by decide +kernel
theorem dX12_roams_10 : decode cX12_roams 10 = .ok (.istore_n 2, 1) := by decide +kernel
theorem dX12_roams_11 : decode cX12_roams 11 = .ok (.iconst 1, 1) := by decide +kernel
theorem dX12_roams_12 : decode cX12_roams 12 = .ok (.istore_n 3, 1) := by decide +kernel
theorem dX12_roams_13 : decode cX12_roams 13 = .ok (.iconst 0, 1) := by decide +kernel
theorem dX12_roams_14 : decode cX12_roams 14 = .ok (.istore 4, 2) := by decide +kernel
theorem dX12_roams_16 : decode cX12_roams 16 = .ok (.iload_n 3, 1) := by decide +kernel
theorem dX12_roams_17 : decode cX12_roams 17 = .ok (.ifCond .eq 154, 3) := by decide +kernel
theorem dX12_roams_20 : decode cX12_roams 20 = .ok (.iconst 0, 1) := by decide +kernel
theorem dX12_roams_21 : decode cX12_roams 21 = .ok (.istore_n 3, 1) := by decide +kernel
theorem dX12_roams_22 : decode cX12_roams 22 = .ok (.iconst 0, 1) := by decide +kernel
theorem dX12_roams_23 : decode cX12_roams 23 = .ok (.istore 5, 2) := by decide +kernel
theorem dX12_roams_25 : decode cX12_roams 25 = .ok (.iload 5, 2) := by decide +kernel
theorem dX12_roams_27 : decode cX12_roams 27 = .ok (.sipush 384, 3) := by decide +kernel
theorem dX12_roams_30 : decode cX12_roams 30 = .ok (.if_icmp .ge 138, 3) := by decide +kernel
theorem dX12_roams_33 : decode cX12_roams 33 = .ok (.aload_n 0, 1) := by decide +kernel
theorem dX12_roams_34 : decode cX12_roams 34 = .ok (.getfield 126, 3) := by decide +kernel
theorem dX12_roams_37 : decode cX12_roams 37 = .ok (.iload 5, 2) := by decide +kernel
theorem dX12_roams_39 : decode cX12_roams 39 = .ok (.baload, 1) := by decide +kernel
theorem dX12_roams_40 : decode cX12_roams 40 = .ok (.ifCond .ne 6, 3) := by decide +kernel
theorem dX12_roams_43 : decode cX12_roams 43 = .ok (.goto 119, 3) := by decide +kernel
theorem dX12_roams_46 : decode cX12_roams 46 = .ok (.iload 5, 2) := by decide +kernel
theorem dX12_roams_48 : decode cX12_roams 48 = .ok (.bipush 64, 2) := by decide +kernel
theorem dX12_roams_50 : decode cX12_roams 50 = .ok (.idiv, 1) := by decide +kernel
theorem dX12_roams_51 : decode cX12_roams 51 = .ok (.istore 6, 2) := by decide +kernel
theorem dX12_roams_53 : decode cX12_roams 53 = .ok (.iload 4, 2) := by decide +kernel
theorem dX12_roams_55 : decode cX12_roams 55 = .ok (.ifCond .ne 12, 3) := by decide +kernel
theorem dX12_roams_58 : decode cX12_roams 58 = .ok (.iload 5, 2) := by decide +kernel
theorem dX12_roams_60 : decode cX12_roams 60 = .ok (.bipush 64, 2) := by decide +kernel
theorem dX12_roams_62 : decode cX12_roams 62 = .ok (.irem, 1) := by decide +kernel
theorem dX12_roams_63 : decode cX12_roams 63 = .ok (.iload_n 2, 1) := by decide +kernel
theorem dX12_roams_64 : decode cX12_roams 64 = .ok (.if_icmp .ne 7, 3) := by decide +kernel
theorem dX12_roams_67 : decode cX12_roams 67 = .ok (.iconst 1, 1) := by decide +kernel
theorem dX12_roams_68 : decode cX12_roams 68 = .ok (.goto 4, 3) := by decide +kernel
theorem dX12_roams_71 : decode cX12_roams 71 = .ok (.iconst 0, 1) := by decide +kernel
theorem dX12_roams_72 : decode cX12_roams 72 = .ok (.istore 4, 2) := by decide +kernel
theorem dX12_roams_74 : decode cX12_roams 74 = .ok (.iconst 0, 1) := by decide +kernel
theorem dX12_roams_75 : decode cX12_roams 75 = .ok (.istore 7, 2) := by decide +kernel
theorem dX12_roams_77 : decode cX12_roams 77 = .ok (.iload 7, 2) := by decide +kernel
theorem dX12_roams_79 : decode cX12_roams 79 = .ok (.aload_n 0, 1) := by decide +kernel
theorem dX12_roams_80 : decode cX12_roams 80 = .ok (.getfield 13, 3) := by decide +kernel
theorem dX12_roams_83 : decode cX12_roams 83 = .ok (.iconst 0, 1) := by decide +kernel
theorem dX12_roams_84 : decode cX12_roams 84 = .ok (.iaload, 1) := by decide +kernel
theorem dX12_roams_85 : decode cX12_roams 85 = .ok (.if_icmp .ge 77, 3) := by decide +kernel
theorem dX12_roams_88 : decode cX12_roams 88 = .ok (.bipush 64, 2) := by decide +kernel
theorem dX12_roams_90 : decode cX12_roams 90 = .ok (.iload 7, 2) := by decide +kernel
theorem dX12_roams_92 : decode cX12_roams 92 = .ok (.imul, 1) := by decide +kernel
theorem dX12_roams_93 : decode cX12_roams 93 = .ok (.iload 5, 2) := by decide +kernel
theorem dX12_roams_95 : decode cX12_roams 95 = .ok (.bipush 64, 2) := by decide +kernel
theorem dX12_roams_97 : decode cX12_roams 97 = .ok (.irem, 1) := by decide +kernel
theorem dX12_roams_98 : decode cX12_roams 98 = .ok (.iconst 1, 1) := by decide +kernel
theorem dX12_roams_99 : decode cX12_roams 99 = .ok (.iload 7, 2) := by decide +kernel
theorem dX12_roams_101 : decode cX12_roams 101 = .ok (.ishl, 1) := by decide +kernel
theorem dX12_roams_102 : decode cX12_roams 102 = .ok (.ior, 1) := by decide +kernel
theorem dX12_roams_103 : decode cX12_roams 103 = .ok (.iadd, 1) := by decide +kernel
theorem dX12_roams_104 : decode cX12_roams 104 = .ok (.istore 8, 2) := by decide +kernel
theorem dX12_roams_106 : decode cX12_roams 106 = .ok (.aload_n 0, 1) := by decide +kernel
theorem dX12_roams_107 : decode cX12_roams 107 = .ok (.getfield 26, 3) := by decide +kernel
theorem dX12_roams_110 : decode cX12_roams 110 = .ok (.iload 6, 2) := by decide +kernel
theorem dX12_roams_112 : decode cX12_roams 112 = .ok (.iaload, 1) := by decide +kernel
theorem dX12_roams_113 : decode cX12_roams 113 = .ok (.iload 7, 2) := by decide +kernel
theorem dX12_roams_115 : decode cX12_roams 115 = .ok (.ishr, 1) := by decide +kernel
theorem dX12_roams_116 : decode cX12_roams 116 = .ok (.iconst 1, 1) := by decide +kernel
theorem dX12_roams_117 : decode cX12_roams 117 = .ok (.iand, 1) := by decide +kernel
theorem dX12_roams_118 : decode cX12_roams 118 = .ok (.ifCond .eq 38, 3) := by decide +kernel
theorem dX12_roams_121 : decode cX12_roams 121 = .ok (.aload_n 0, 1) := by decide +kernel
theorem dX12_roams_122 : decode cX12_roams 122 = .ok (.getfield 126, 3) := by decide +kernel
theorem dX12_roams_125 : decode cX12_roams 125 = .ok (.iload 8, 2) := by decide +kernel
theorem dX12_roams_127 : decode cX12_roams 127 = .ok (.baload, 1) := by decide +kernel
theorem dX12_roams_128 : decode cX12_roams 128 = .ok (.ifCond .ne 28, 3) := by decide +kernel
theorem dX12_roams_131 : decode cX12_roams 131 = .ok (.aload_n 0, 1) := by decide +kernel
theorem dX12_roams_132 : decode cX12_roams 132 = .ok (.iload 7, 2) := by decide +kernel
theorem dX12_roams_134 : decode cX12_roams 134 = .ok (.iload_n 1, 1) := by decide +kernel
theorem dX12_roams_135 : decode cX12_roams 135 = .ok (.iload 6, 2) := by decide +kernel
theorem dX12_roams_137 : decode cX12_roams 137 = .ok (.invokevirtual 362, 3) := by decide +kernel
theorem dX12_roams_140 : decode cX12_roams 140 = .ok (.ifCond .ne 6, 3) := by decide +kernel
theorem dX12_roams_143 : decode cX12_roams 143 = .ok (.goto 13, 3) := by decide +kernel
theorem dX12_roams_146 : decode cX12_roams 146 = .ok (.aload_n 0, 1) := by decide +kernel
theorem dX12_roams_147 : decode cX12_roams 147 = .ok (.getfield 126, 3) := by decide +kernel
theorem dX12_roams_150 : decode cX12_roams 150 = .ok (.iload 8, 2) := by decide +kernel
theorem dX12_roams_152 : decode cX12_roams 152 = .ok (.iconst 1, 1) := by decide +kernel
theorem dX12_roams_153 : decode cX12_roams 153 = .ok (.bastore, 1) := by decide +kernel
theorem dX12_roams_154 : decode cX12_roams 154 = .ok (.iconst 1, 1) := by decide +kernel
theorem dX12_roams_155 : decode cX12_roams 155 = .ok (.istore_n 3, 1) := by decide +kernel
theorem dX12_roams_156 : decode cX12_roams 156 = .ok (.iinc 7 1, 3) := by decide +kernel
theorem dX12_roams_159 : decode cX12_roams 159 = .ok (.goto (-82), 3) := by decide +kernel
theorem dX12_roams_162 : decode cX12_roams 162 = .ok (.iinc 5 1, 3) := by decide +kernel
theorem dX12_roams_165 : decode cX12_roams 165 = .ok (.goto (-140), 3) := by decide +kernel
theorem dX12_roams_168 : decode cX12_roams 168 = .ok (.goto (-152), 3) := by decide +kernel
theorem dX12_roams_171 : decode cX12_roams 171 = .ok (.iload 4, 2) := by decide +kernel
theorem dX12_roams_173 : decode cX12_roams 173 = .ok (.ireturn, 1) := by decide +kernel
theorem dX12_round_0 : decode cX12_round 0 = .ok (.aload_n 0, 1) := by decide +kernel
theorem dX12_round_1 : decode cX12_round 1 = .ok (.iconst 0, 1) := by decide +kernel
theorem dX12_round_2 : decode cX12_round 2 = .ok (.putfield 129, 3) := by decide +kernel
theorem dX12_round_5 : decode cX12_round 5 = .ok (.aload_n 0, 1) := by decide +kernel
theorem dX12_round_6 : decode cX12_round 6 = .ok (.iload_n 1, 1) := by decide +kernel
theorem dX12_round_7 : decode cX12_round 7 = .ok (.invokevirtual 370, 3) := by decide +kernel
theorem dX12_round_10 : decode cX12_round 10 = .ok (.ifCond .ne 5, 3) := by decide +kernel
theorem dX12_round_13 : decode cX12_round 13 = .ok (.iconst (-1), 1) := by decide +kernel
theorem dX12_round_14 : decode cX12_round 14 = .ok (.ireturn, 1) := by decide +kernel
theorem dX12_round_15 : decode cX12_round 15 = .ok (.aload_n 0, 1) := by decide +kernel
theorem dX12_round_16 : decode cX12_round 16 = .ok (.getfield 108, 3) := by decide +kernel
theorem dX12_round_19 : decode cX12_round 19 = .ok (.iconst 0, 1) := by decide +kernel
theorem dX12_round_20 : decode cX12_round 20 = .ok (.aload_n 0, 1) := by decide +kernel
theorem dX12_round_21 : decode cX12_round 21 = .ok (.getfield 114, 3) := by decide +kernel
theorem dX12_round_24 : decode cX12_round 24 = .ok (.iconst 0, 1) := by decide +kernel
theorem dX12_round_25 : decode cX12_round 25 = .ok (.invokestatic 379, 3) := by decide +kernel
theorem dX12_round_28 : decode cX12_round 28 = .ok (.iconst 0, 1) := by decide +kernel
theorem dX12_round_29 : decode cX12_round 29 = .ok (.istore_n 2, 1) := by decide +kernel
theorem dX12_round_30 : decode cX12_round 30 = .ok (.iload_n 2, 1) := by decide +kernel
theorem dX12_round_31 : decode cX12_round 31 = .ok (.sipush 384, 3) := by decide +kernel
theorem dX12_round_34 : decode cX12_round 34 = .ok (.if_icmp .ge 16, 3) := by decide +kernel
theorem dX12_round_37 : decode cX12_round 37 = .ok (.aload_n 0, 1) := by decide +kernel
theorem dX12_round_38 : decode cX12_round 38 = .ok (.getfield 126, 3) := by decide +kernel
theorem dX12_round_41 : decode cX12_round 41 = .ok (.iload_n 2, 1) := by decide +kernel
theorem dX12_round_42 : decode cX12_round 42 = .ok (.iconst 0, 1) := by decide +kernel
theorem dX12_round_43 : decode cX12_round 43 = .ok (.bastore, 1) := by decide +kernel
theorem dX12_round_44 : decode cX12_round 44 = .ok (.iinc 2 1, 3) := by decide +kernel
theorem dX12_round_47 : decode cX12_round 47 = .ok (.goto (-17), 3) := by decide +kernel
theorem dX12_round_50 : decode cX12_round 50 = .ok (.aload_n 0, 1) := by decide +kernel
theorem dX12_round_51 : decode cX12_round 51 = .ok (.getfield 126, 3) := by decide +kernel
theorem dX12_round_54 : decode cX12_round 54 = .ok (.bipush 64, 2) := by decide +kernel
theorem dX12_round_56 : decode cX12_round 56 = .ok (.aload_n 0, 1) := by decide +kernel
theorem dX12_round_57 : decode cX12_round 57 = .ok (.getfield 108, 3) := by decide +kernel
theorem dX12_round_60 : decode cX12_round 60 = .ok (.iconst 1, 1) := by decide +kernel
theorem dX12_round_61 : decode cX12_round 61 = .ok (.iload_n 1, 1) := by decide +kernel
theorem dX12_round_62 : decode cX12_round 62 = .ok (.iadd, 1) := by decide +kernel
theorem dX12_round_63 : decode cX12_round 63 = .ok (.iaload, 1) := by decide +kernel
theorem dX12_round_64 : decode cX12_round 64 = .ok (.imul, 1) := by decide +kernel
theorem dX12_round_65 : decode cX12_round 65 = .ok (.aload_n 0, 1) := by decide +kernel
theorem dX12_round_66 : decode cX12_round 66 = .ok (.getfield 108, 3) := by decide +kernel
theorem dX12_round_69 : decode cX12_round 69 = .ok (.bipush 25, 2) := by decide +kernel
theorem dX12_round_71 : decode cX12_round 71 = .ok (.iload_n 1, 1) := by decide +kernel
theorem dX12_round_72 : decode cX12_round 72 = .ok (.iadd, 1) := by decide +kernel
theorem dX12_round_73 : decode cX12_round 73 = .ok (.iaload, 1) := by decide +kernel
theorem dX12_round_74 : decode cX12_round 74 = .ok (.iadd, 1) := by decide +kernel
theorem dX12_round_75 : decode cX12_round 75 = .ok (.iconst 1, 1) := by decide +kernel
theorem dX12_round_76 : decode cX12_round 76 = .ok (.bastore, 1) := by decide +kernel
theorem dX12_round_77 : decode cX12_round 77 = .ok (.iconst 0, 1) := by decide +kernel
theorem dX12_round_78 : decode cX12_round 78 = .ok (.istore_n 2, 1) := by decide +kernel
theorem dX12_round_79 : decode cX12_round 79 = .ok (.iload_n 2, 1) := by decide +kernel
theorem dX12_round_80 : decode cX12_round 80 = .ok (.bipush 100, 2) := by decide +kernel
theorem dX12_round_82 : decode cX12_round 82 = .ok (.if_icmp .ge 21, 3) := by decide +kernel
theorem dX12_round_85 : decode cX12_round 85 = .ok (.aload_n 0, 1) := by decide +kernel
theorem dX12_round_86 : decode cX12_round 86 = .ok (.iload_n 1, 1) := by decide +kernel
theorem dX12_round_87 : decode cX12_round 87 = .ok (.invokevirtual 429, 3) := by decide +kernel
theorem dX12_round_90 : decode cX12_round 90 = .ok (.ifCond .ne 13, 3) := by decide +kernel
theorem dX12_round_93 : decode cX12_round 93 = .ok (.aload_n 0, 1) := by decide +kernel
theorem dX12_round_94 : decode cX12_round 94 = .ok (.invokevirtual 401, 3) := by decide +kernel
theorem dX12_round_97 : decode cX12_round 97 = .ok (.iinc 2 1, 3) := by decide +kernel
theorem dX12_round_100 : decode cX12_round 100 = .ok (.goto (-21), 3) := by decide +kernel
theorem dX12_round_103 : decode cX12_round 103 = .ok (.aload_n 0, 1) := by decide +kernel
theorem dX12_round_104 : decode cX12_round 104 = .ok (.getfield 114, 3) := by decide +kernel
theorem dX12_round_107 : decode cX12_round 107 = .ok (.iconst 0, 1) := by decide +kernel
theorem dX12_round_108 : decode cX12_round 108 = .ok (.aload_n 0, 1) := by decide +kernel
theorem dX12_round_109 : decode cX12_round 109 = .ok (.getfield 108, 3) := by decide +kernel
theorem dX12_round_112 : decode cX12_round 112 = .ok (.iconst 0, 1) := by decide +kernel
theorem dX12_round_113 : decode cX12_round 113 = .ok (.invokestatic 379, 3) := by decide +kernel
theorem dX12_round_116 : decode cX12_round 116 = .ok (.iload_n 2, 1) := by decide +kernel
theorem dX12_round_117 : decode cX12_round 117 = .ok (.bipush 99, 2) := by decide +kernel
theorem dX12_round_119 : decode cX12_round 119 = .ok (.if_icmp .le 7, 3) := by decide +kernel
theorem dX12_round_122 : decode cX12_round 122 = .ok (.iconst (-1), 1) := by decide +kernel
theorem dX12_round_123 : decode cX12_round 123 = .ok (.goto 4, 3) := by decide +kernel
theorem dX12_round_126 : decode cX12_round 126 = .ok (.iload_n 2, 1) := by decide +kernel
theorem dX12_round_127 : decode cX12_round 127 = .ok (.ireturn, 1) := by decide +kernel
theorem dX12_needOf_0 : decode cX12_needOf 0 = .ok (.aload_n 0, 1) := by decide +kernel
theorem dX12_needOf_1 : decode cX12_needOf 1 = .ok (.getfield 108, 3) := by decide +kernel
theorem dX12_needOf_4 : decode cX12_needOf 4 = .ok (.iconst 0, 1) := by decide +kernel
theorem dX12_needOf_5 : decode cX12_needOf 5 = .ok (.aload_n 0, 1) := by decide +kernel
theorem dX12_needOf_6 : decode cX12_needOf 6 = .ok (.getfield 114, 3) := by decide +kernel
theorem dX12_needOf_9 : decode cX12_needOf 9 = .ok (.iconst 0, 1) := by decide +kernel
theorem dX12_needOf_10 : decode cX12_needOf 10 = .ok (.invokestatic 379, 3) := by decide +kernel
theorem dX12_needOf_13 : decode cX12_needOf 13 = .ok (.aload_n 0, 1) := by decide +kernel
theorem dX12_needOf_14 : decode cX12_needOf 14 = .ok (.getfield 29, 3) := by decide +kernel
theorem dX12_needOf_17 : decode cX12_needOf 17 = .ok (.iload_n 1, 1) := by decide +kernel
theorem dX12_needOf_18 : decode cX12_needOf 18 = .ok (.iaload, 1) := by decide +kernel
theorem dX12_needOf_19 : decode cX12_needOf 19 = .ok (.iconst 1, 1) := by decide +kernel
theorem dX12_needOf_20 : decode cX12_needOf 20 = .ok (.if_icmp .ne 7, 3) := by decide +kernel
theorem dX12_needOf_23 : decode cX12_needOf 23 = .ok (.iconst 0, 1) := by decide +kernel
theorem dX12_needOf_24 : decode cX12_needOf 24 = .ok (.goto 15, 3) := by decide +kernel
theorem dX12_needOf_27 : decode cX12_needOf 27 = .ok (.bipush 20, 2) := by decide +kernel
theorem dX12_needOf_29 : decode cX12_needOf 29 = .ok (.aload_n 0, 1) := by decide +kernel
theorem dX12_needOf_30 : decode cX12_needOf 30 = .ok (.getfield 108, 3) := by decide +kernel
theorem dX12_needOf_33 : decode cX12_needOf 33 = .ok (.bipush 13, 2) := by decide +kernel
theorem dX12_needOf_35 : decode cX12_needOf 35 = .ok (.iload_n 1, 1) := by decide +kernel
theorem dX12_needOf_36 : decode cX12_needOf 36 = .ok (.iadd, 1) := by decide +kernel
theorem dX12_needOf_37 : decode cX12_needOf 37 = .ok (.iaload, 1) := by decide +kernel
theorem dX12_needOf_38 : decode cX12_needOf 38 = .ok (.isub, 1) := by decide +kernel
theorem dX12_needOf_39 : decode cX12_needOf 39 = .ok (.istore_n 3, 1) := by decide +kernel
theorem dX12_needOf_40 : decode cX12_needOf 40 = .ok (.iconst (-1), 1) := by decide +kernel
theorem dX12_needOf_41 : decode cX12_needOf 41 = .ok (.istore 4, 2) := by decide +kernel
theorem dX12_needOf_43 : decode cX12_needOf 43 = .ok (.iconst 0, 1) := by decide +kernel
theorem dX12_needOf_44 : decode cX12_needOf 44 = .ok (.istore 5, 2) := by decide +kernel
theorem dX12_needOf_46 : decode cX12_needOf 46 = .ok (.iload 5, 2) := by decide +kernel
theorem dX12_needOf_48 : decode cX12_needOf 48 = .ok (.iload_n 3, 1) := by decide +kernel
theorem dX12_needOf_49 : decode cX12_needOf 49 = .ok (.if_icmp .gt 54, 3) := by decide +kernel
theorem dX12_needOf_52 : decode cX12_needOf 52 = .ok (.iload 4, 2) := by decide +kernel
theorem dX12_needOf_54 : decode cX12_needOf 54 = .ok (.ifCond .ge 49, 3) := by decide +kernel
theorem dX12_needOf_57 : decode cX12_needOf 57 = .ok (.aload_n 0, 1) := by decide +kernel
theorem dX12_needOf_58 : decode cX12_needOf 58 = .ok (.iload_n 1, 1) := by decide +kernel
theorem dX12_needOf_59 : decode cX12_needOf 59 = .ok (.iconst 1, 1) := by decide +kernel
theorem dX12_needOf_60 : decode cX12_needOf 60 = .ok (.aload_n 0, 1) := by decide +kernel
theorem dX12_needOf_61 : decode cX12_needOf 61 = .ok (.getfield 108, 3) := by decide +kernel
theorem dX12_needOf_64 : decode cX12_needOf 64 = .ok (.iconst 1, 1) := by decide +kernel
theorem dX12_needOf_65 : decode cX12_needOf 65 = .ok (.iload_n 1, 1) := by decide +kernel
theorem dX12_needOf_66 : decode cX12_needOf 66 = .ok (.iadd, 1) := by decide +kernel
theorem dX12_needOf_67 : decode cX12_needOf 67 = .ok (.iaload, 1) := by decide +kernel
theorem dX12_needOf_68 : decode cX12_needOf 68 = .ok (.ishl, 1) := by decide +kernel
theorem dX12_needOf_69 : decode cX12_needOf 69 = .ok (.invokevirtual 419, 3) := by decide +kernel
theorem dX12_needOf_72 : decode cX12_needOf 72 = .ok (.iload_n 2, 1) := by decide +kernel
theorem dX12_needOf_73 : decode cX12_needOf 73 = .ok (.ishr, 1) := by decide +kernel
theorem dX12_needOf_74 : decode cX12_needOf 74 = .ok (.iconst 1, 1) := by decide +kernel
theorem dX12_needOf_75 : decode cX12_needOf 75 = .ok (.iand, 1) := by decide +kernel
theorem dX12_needOf_76 : decode cX12_needOf 76 = .ok (.iconst 1, 1) := by decide +kernel
theorem dX12_needOf_77 : decode cX12_needOf 77 = .ok (.if_icmp .ne 7, 3) := by decide +kernel
theorem dX12_needOf_80 : decode cX12_needOf 80 = .ok (.iload 5, 2) := by decide +kernel
theorem dX12_needOf_82 : decode cX12_needOf 82 = .ok (.istore 4, 2) := by decide +kernel
theorem dX12_needOf_84 : decode cX12_needOf 84 = .ok (.aload_n 0, 1) := by decide +kernel
theorem dX12_needOf_85 : decode cX12_needOf 85 = .ok (.getfield 108, 3) := by decide +kernel
theorem dX12_needOf_88 : decode cX12_needOf 88 = .ok (.bipush 13, 2) := by decide +kernel
theorem dX12_needOf_90 : decode cX12_needOf 90 = .ok (.iload_n 1, 1) := by decide +kernel
theorem dX12_needOf_91 : decode cX12_needOf 91 = .ok (.iadd, 1) := by decide +kernel
theorem dX12_needOf_92 : decode cX12_needOf 92 = .ok (.dup2, 1) := by decide +kernel
theorem dX12_needOf_93 : decode cX12_needOf 93 = .ok (.iaload, 1) := by decide +kernel
theorem dX12_needOf_94 : decode cX12_needOf 94 = .ok (.iconst 1, 1) := by decide +kernel
theorem dX12_needOf_95 : decode cX12_needOf 95 = .ok (.iadd, 1) := by decide +kernel
theorem dX12_needOf_96 : decode cX12_needOf 96 = .ok (.iastore, 1) := by decide +kernel
theorem dX12_needOf_97 : decode cX12_needOf 97 = .ok (.iinc 5 1, 3) := by decide +kernel
theorem dX12_needOf_100 : decode cX12_needOf 100 = .ok (.goto (-54), 3) := by decide +kernel
theorem dX12_needOf_103 : decode cX12_needOf 103 = .ok (.aload_n 0, 1) := by decide +kernel
theorem dX12_needOf_104 : decode cX12_needOf 104 = .ok (.getfield 114, 3) := by decide +kernel
theorem dX12_needOf_107 : decode cX12_needOf 107 = .ok (.iconst 0, 1) := by decide +kernel
theorem dX12_needOf_108 : decode cX12_needOf 108 = .ok (.aload_n 0, 1) := by decide +kernel
theorem dX12_needOf_109 : decode cX12_needOf 109 = .ok (.getfield 108, 3) := by decide +kernel
theorem dX12_needOf_112 : decode cX12_needOf 112 = .ok (.iconst 0, 1) := by decide +kernel
theorem dX12_needOf_113 : decode cX12_needOf 113 = .ok (.invokestatic 379, 3) := by decide +kernel
theorem dX12_needOf_116 : decode cX12_needOf 116 = .ok (.iload 4, 2) := by decide +kernel
theorem dX12_needOf_118 : decode cX12_needOf 118 = .ok (.ireturn, 1) := by decide +kernel
theorem dX12_need_0 : decode cX12_need 0 = .ok (.aload_n 0, 1) := by decide +kernel
theorem dX12_need_1 : decode cX12_need 1 = .ok (.iconst 0, 1) := by decide +kernel
theorem dX12_need_2 : decode cX12_need 2 = .ok (.putfield 129, 3) := by decide +kernel
theorem dX12_need_5 : decode cX12_need 5 = .ok (.aload_n 0, 1) := by decide +kernel
theorem dX12_need_6 : decode cX12_need 6 = .ok (.iload_n 1, 1) := by decide +kernel
theorem dX12_need_7 : decode cX12_need 7 = .ok (.invokevirtual 370, 3) := by decide +kernel
theorem dX12_need_10 : decode cX12_need 10 = .ok (.ifCond .eq 20, 3) := by decide +kernel
theorem dX12_need_13 : decode cX12_need 13 = .ok (.aload_n 0, 1) := by decide +kernel
theorem dX12_need_14 : decode cX12_need 14 = .ok (.iload_n 2, 1) := by decide +kernel
theorem dX12_need_15 : decode cX12_need 15 = .ok (.invokevirtual 373, 3) := by decide +kernel
theorem dX12_need_18 : decode cX12_need 18 = .ok (.ifCond .eq 12, 3) := by decide +kernel
theorem dX12_need_21 : decode cX12_need 21 = .ok (.aload_n 0, 1) := by decide +kernel
theorem dX12_need_22 : decode cX12_need 22 = .ok (.iload_n 1, 1) := by decide +kernel
theorem dX12_need_23 : decode cX12_need 23 = .ok (.iload_n 2, 1) := by decide +kernel
theorem dX12_need_24 : decode cX12_need 24 = .ok (.invokevirtual 432, 3) := by decide +kernel
theorem dX12_need_27 : decode cX12_need 27 = .ok (.goto 4, 3) := by decide +kernel
theorem dX12_need_30 : decode cX12_need 30 = .ok (.iconst (-1), 1) := by decide +kernel
theorem dX12_need_31 : decode cX12_need 31 = .ok (.ireturn, 1) := by decide +kernel
theorem dX12_cheapest_0 : decode cX12_cheapest 0 = .ok (.aload_n 0, 1) := by decide +kernel
theorem dX12_cheapest_1 : decode cX12_cheapest 1 = .ok (.iconst 0, 1) := by decide +kernel
theorem dX12_cheapest_2 : decode cX12_cheapest 2 = .ok (.putfield 129, 3) := by decide +kernel
theorem dX12_cheapest_5 : decode cX12_cheapest 5 = .ok (.aload_n 0, 1) := by decide +kernel
theorem dX12_cheapest_6 : decode cX12_cheapest 6 = .ok (.iload_n 1, 1) := by decide +kernel
theorem dX12_cheapest_7 : decode cX12_cheapest 7 = .ok (.invokevirtual 370, 3) := by decide +kernel
theorem dX12_cheapest_10 : decode cX12_cheapest 10 = .ok (.ifCond .ne 5, 3) := by decide +kernel
theorem dX12_cheapest_13 : decode cX12_cheapest 13 = .ok (.iconst (-1), 1) := by decide +kernel
theorem dX12_cheapest_14 : decode cX12_cheapest 14 = .ok (.ireturn, 1) := by decide +kernel
theorem dX12_cheapest_15 : decode cX12_cheapest 15 = .ok (.iconst (-1), 1) := by decide +kernel
theorem dX12_cheapest_16 : decode cX12_cheapest 16 = .ok (.istore_n 2, 1) := by decide +kernel
theorem dX12_cheapest_17 : decode cX12_cheapest 17 = .ok (.iconst 0, 1) := by decide +kernel
theorem dX12_cheapest_18 : decode cX12_cheapest 18 = .ok (.istore_n 3, 1) := by decide +kernel
theorem dX12_cheapest_19 : decode cX12_cheapest 19 = .ok (.iconst 0, 1) := by decide +kernel
theorem dX12_cheapest_20 : decode cX12_cheapest 20 = .ok (.istore 4, 2) := by decide +kernel
theorem dX12_cheapest_22 : decode cX12_cheapest 22 = .ok (.iload 4, 2) := by decide +kernel
theorem dX12_cheapest_24 : decode cX12_cheapest 24 = .ok (.aload_n 0, 1) := by decide +kernel
theorem dX12_cheapest_25 : decode cX12_cheapest 25 = .ok (.getfield 13, 3) := by decide +kernel
theorem dX12_cheapest_28 : decode cX12_cheapest 28 = .ok (.iconst 0, 1) := by decide +kernel
theorem dX12_cheapest_29 : decode cX12_cheapest 29 = .ok (.iaload, 1) := by decide +kernel
theorem dX12_cheapest_30 : decode cX12_cheapest 30 = .ok (.if_icmp .ge 42, 3) := by decide +kernel
theorem dX12_cheapest_33 : decode cX12_cheapest 33 = .ok (.aload_n 0, 1) := by decide +kernel
theorem dX12_cheapest_34 : decode cX12_cheapest 34 = .ok (.iload_n 1, 1) := by decide +kernel
theorem dX12_cheapest_35 : decode cX12_cheapest 35 = .ok (.iload 4, 2) := by decide +kernel
theorem dX12_cheapest_37 : decode cX12_cheapest 37 = .ok (.invokevirtual 432, 3) := by decide +kernel
theorem dX12_cheapest_40 : decode cX12_cheapest 40 = .ok (.istore 5, 2) := by decide +kernel
theorem dX12_cheapest_42 : decode cX12_cheapest 42 = .ok (.iload 5, 2) := by decide +kernel
theorem dX12_cheapest_44 : decode cX12_cheapest 44 = .ok (.ifCond .le 22, 3) := by decide +kernel
theorem dX12_cheapest_47 : decode cX12_cheapest 47 = .ok (.iload_n 2, 1) := by decide +kernel
theorem dX12_cheapest_48 : decode cX12_cheapest 48 = .ok (.ifCond .lt 12, 3) := by decide +kernel
theorem dX12_cheapest_51 : decode cX12_cheapest 51 = .ok (.iload 5, 2) := by decide +kernel
theorem dX12_cheapest_53 : decode cX12_cheapest 53 = .ok (.iload_n 3, 1) := by decide +kernel
theorem dX12_cheapest_54 : decode cX12_cheapest 54 = .ok (.if_icmp .lt 6, 3) := by decide +kernel
theorem dX12_cheapest_57 : decode cX12_cheapest 57 = .ok (.goto 9, 3) := by decide +kernel
theorem dX12_cheapest_60 : decode cX12_cheapest 60 = .ok (.iload 4, 2) := by decide +kernel
theorem dX12_cheapest_62 : decode cX12_cheapest 62 = .ok (.istore_n 2, 1) := by decide +kernel
theorem dX12_cheapest_63 : decode cX12_cheapest 63 = .ok (.iload 5, 2) := by decide +kernel
theorem dX12_cheapest_65 : decode cX12_cheapest 65 = .ok (.istore_n 3, 1) := by decide +kernel
theorem dX12_cheapest_66 : decode cX12_cheapest 66 = .ok (.iinc 4 1, 3) := by decide +kernel
theorem dX12_cheapest_69 : decode cX12_cheapest 69 = .ok (.goto (-47), 3) := by decide +kernel
theorem dX12_cheapest_72 : decode cX12_cheapest 72 = .ok (.iload_n 2, 1) := by decide +kernel
theorem dX12_cheapest_73 : decode cX12_cheapest 73 = .ok (.ireturn, 1) := by decide +kernel
theorem dX12_debt_0 : decode cX12_debt 0 = .ok (.aload_n 0, 1) := by decide +kernel
theorem dX12_debt_1 : decode cX12_debt 1 = .ok (.iconst 0, 1) := by decide +kernel
theorem dX12_debt_2 : decode cX12_debt 2 = .ok (.putfield 129, 3) := by decide +kernel
theorem dX12_debt_5 : decode cX12_debt 5 = .ok (.aload_n 0, 1) := by decide +kernel
theorem dX12_debt_6 : decode cX12_debt 6 = .ok (.iload_n 1, 1) := by decide +kernel
theorem dX12_debt_7 : decode cX12_debt 7 = .ok (.invokevirtual 370, 3) := by decide +kernel
theorem dX12_debt_10 : decode cX12_debt 10 = .ok (.ifCond .eq 20, 3) := by decide +kernel
theorem dX12_debt_13 : decode cX12_debt 13 = .ok (.aload_n 0, 1) := by decide +kernel
theorem dX12_debt_14 : decode cX12_debt 14 = .ok (.iload_n 2, 1) := by decide +kernel
theorem dX12_debt_15 : decode cX12_debt 15 = .ok (.invokevirtual 373, 3) := by decide +kernel
theorem dX12_debt_18 : decode cX12_debt 18 = .ok (.ifCond .eq 12, 3) := by decide +kernel
theorem dX12_debt_21 : decode cX12_debt 21 = .ok (.aload_n 0, 1) := by decide +kernel
theorem dX12_debt_22 : decode cX12_debt 22 = .ok (.iload_n 1, 1) := by decide +kernel
theorem dX12_debt_23 : decode cX12_debt 23 = .ok (.iload_n 2, 1) := by decide +kernel
theorem dX12_debt_24 : decode cX12_debt 24 = .ok (.invokevirtual 432, 3) := by decide +kernel
theorem dX12_debt_27 : decode cX12_debt 27 = .ok (.goto 4, 3) := by decide +kernel
theorem dX12_debt_30 : decode cX12_debt 30 = .ok (.iconst (-1), 1) := by decide +kernel
theorem dX12_debt_31 : decode cX12_debt 31 = .ok (.istore_n 3, 1) := by decide +kernel
theorem dX12_debt_32 : decode cX12_debt 32 = .ok (.iload_n 3, 1) := by decide +kernel
theorem dX12_debt_33 : decode cX12_debt 33 = .ok (.ifCond .ge 7, 3) := by decide +kernel
theorem dX12_debt_36 : decode cX12_debt 36 = .ok (.iconst (-1), 1) := by decide +kernel
theorem dX12_debt_37 : decode cX12_debt 37 = .ok (.goto 25, 3) := by decide +kernel
theorem dX12_debt_40 : decode cX12_debt 40 = .ok (.iconst 0, 1) := by decide +kernel
theorem dX12_debt_41 : decode cX12_debt 41 = .ok (.iload_n 3, 1) := by decide +kernel
theorem dX12_debt_42 : decode cX12_debt 42 = .ok (.aload_n 0, 1) := by decide +kernel
theorem dX12_debt_43 : decode cX12_debt 43 = .ok (.getfield 13, 3) := by decide +kernel
theorem dX12_debt_46 : decode cX12_debt 46 = .ok (.iconst 3, 1) := by decide +kernel
theorem dX12_debt_47 : decode cX12_debt 47 = .ok (.iaload, 1) := by decide +kernel
theorem dX12_debt_48 : decode cX12_debt 48 = .ok (.imul, 1) := by decide +kernel
theorem dX12_debt_49 : decode cX12_debt 49 = .ok (.aload_n 0, 1) := by decide +kernel
theorem dX12_debt_50 : decode cX12_debt 50 = .ok (.getfield 108, 3) := by decide +kernel
theorem dX12_debt_53 : decode cX12_debt 53 = .ok (.bipush 19, 2) := by decide +kernel
theorem dX12_debt_55 : decode cX12_debt 55 = .ok (.iload_n 1, 1) := by decide +kernel
theorem dX12_debt_56 : decode cX12_debt 56 = .ok (.iadd, 1) := by decide +kernel
theorem dX12_debt_57 : decode cX12_debt 57 = .ok (.iaload, 1) := by decide +kernel
theorem dX12_debt_58 : decode cX12_debt 58 = .ok (.isub, 1) := by decide +kernel
theorem dX12_debt_59 : decode cX12_debt 59 = .ok (.invokestatic 404, 3) := by decide +kernel
theorem dX12_debt_62 : decode cX12_debt 62 = .ok (.ireturn, 1) := by decide +kernel
theorem dX12_shaven_0 : decode cX12_shaven 0 = .ok (.aload_n 0, 1) := by decide +kernel
theorem dX12_shaven_1 : decode cX12_shaven 1 = .ok (.iconst 0, 1) := by decide +kernel
theorem dX12_shaven_2 : decode cX12_shaven 2 = .ok (.putfield 129, 3) := by decide +kernel
theorem dX12_shaven_5 : decode cX12_shaven 5 = .ok (.aload_n 0, 1) := by decide +kernel
theorem dX12_shaven_6 : decode cX12_shaven 6 = .ok (.iload_n 1, 1) := by decide +kernel
theorem dX12_shaven_7 : decode cX12_shaven 7 = .ok (.invokevirtual 370, 3) := by decide +kernel
theorem dX12_shaven_10 : decode cX12_shaven 10 = .ok (.ifCond .ne 5, 3) := by decide +kernel
theorem dX12_shaven_13 : decode cX12_shaven 13 = .ok (.iconst (-1), 1) := by decide +kernel
theorem dX12_shaven_14 : decode cX12_shaven 14 = .ok (.ireturn, 1) := by decide +kernel
theorem dX12_shaven_15 : decode cX12_shaven 15 = .ok (.aload_n 0, 1) := by decide +kernel
theorem dX12_shaven_16 : decode cX12_shaven 16 = .ok (.getfield 108, 3) := by decide +kernel
theorem dX12_shaven_19 : decode cX12_shaven 19 = .ok (.iconst 0, 1) := by decide +kernel
theorem dX12_shaven_20 : decode cX12_shaven 20 = .ok (.aload_n 0, 1) := by decide +kernel
theorem dX12_shaven_21 : decode cX12_shaven 21 = .ok (.getfield 114, 3) := by decide +kernel
theorem dX12_shaven_24 : decode cX12_shaven 24 = .ok (.iconst 0, 1) := by decide +kernel
theorem dX12_shaven_25 : decode cX12_shaven 25 = .ok (.invokestatic 379, 3) := by decide +kernel
theorem dX12_shaven_28 : decode cX12_shaven 28 = .ok (.aload_n 0, 1) := by decide +kernel
theorem dX12_shaven_29 : decode cX12_shaven 29 = .ok (.iload_n 1, 1) := by decide +kernel
theorem dX12_shaven_30 : decode cX12_shaven 30 = .ok (.invokevirtual 398, 3) := by decide +kernel
theorem dX12_shaven_33 : decode cX12_shaven 33 = .ok (.aload_n 0, 1) := by decide +kernel
theorem dX12_shaven_34 : decode cX12_shaven 34 = .ok (.iload_n 1, 1) := by decide +kernel
theorem dX12_shaven_35 : decode cX12_shaven 35 = .ok (.iconst 1, 1) := by decide +kernel
theorem dX12_shaven_36 : decode cX12_shaven 36 = .ok (.aload_n 0, 1) := by decide +kernel
theorem dX12_shaven_37 : decode cX12_shaven 37 = .ok (.getfield 108, 3) := by decide +kernel
theorem dX12_shaven_40 : decode cX12_shaven 40 = .ok (.iconst 1, 1) := by decide +kernel
theorem dX12_shaven_41 : decode cX12_shaven 41 = .ok (.iload_n 1, 1) := by decide +kernel
theorem dX12_shaven_42 : decode cX12_shaven 42 = .ok (.iadd, 1) := by decide +kernel
theorem dX12_shaven_43 : decode cX12_shaven 43 = .ok (.iaload, 1) := by decide +kernel
theorem dX12_shaven_44 : decode cX12_shaven 44 = .ok (.ishl, 1) := by decide +kernel
theorem dX12_shaven_45 : decode cX12_shaven 45 = .ok (.invokevirtual 419, 3) := by decide +kernel
theorem dX12_shaven_48 : decode cX12_shaven 48 = .ok (.istore_n 2, 1) := by decide +kernel
theorem dX12_shaven_49 : decode cX12_shaven 49 = .ok (.aload_n 0, 1) := by decide +kernel
theorem dX12_shaven_50 : decode cX12_shaven 50 = .ok (.getfield 114, 3) := by decide +kernel
theorem dX12_shaven_53 : decode cX12_shaven 53 = .ok (.iconst 0, 1) := by decide +kernel
theorem dX12_shaven_54 : decode cX12_shaven 54 = .ok (.aload_n 0, 1) := by decide +kernel
theorem dX12_shaven_55 : decode cX12_shaven 55 = .ok (.getfield 108, 3) := by decide +kernel
theorem dX12_shaven_58 : decode cX12_shaven 58 = .ok (.iconst 0, 1) := by decide +kernel
theorem dX12_shaven_59 : decode cX12_shaven 59 = .ok (.invokestatic 379, 3) := by decide +kernel
theorem dX12_shaven_62 : decode cX12_shaven 62 = .ok (.iload_n 2, 1) := by decide +kernel
theorem dX12_shaven_63 : decode cX12_shaven 63 = .ok (.ireturn, 1) := by decide +kernel
theorem dX12_meetsAt_0 : decode cX12_meetsAt 0 = .ok (.iconst 0, 1) := by decide +kernel
theorem dX12_meetsAt_1 : decode cX12_meetsAt 1 = .ok (.istore_n 2, 1) := by decide +kernel
theorem dX12_meetsAt_2 : decode cX12_meetsAt 2 = .ok (.iconst 0, 1) := by decide +kernel
theorem dX12_meetsAt_3 : decode cX12_meetsAt 3 = .ok (.istore_n 3, 1) := by decide +kernel
theorem dX12_meetsAt_4 : decode cX12_meetsAt 4 = .ok (.iload_n 3, 1) := by decide +kernel
theorem dX12_meetsAt_5 : decode cX12_meetsAt 5 = .ok (.aload_n 0, 1) := by decide +kernel
theorem dX12_meetsAt_6 : decode cX12_meetsAt 6 = .ok (.getfield 13, 3) := by decide +kernel
theorem dX12_meetsAt_9 : decode cX12_meetsAt 9 = .ok (.iconst 1, 1) := by decide +kernel
theorem dX12_meetsAt_10 : decode cX12_meetsAt 10 = .ok (.iaload, 1) := by decide +kernel
theorem dX12_meetsAt_11 : decode cX12_meetsAt 11 = .ok (.if_icmp .ge 31, 3) := by decide +kernel
theorem dX12_meetsAt_14 : decode cX12_meetsAt 14 = .ok (.aload_n 0, 1) := by decide +kernel
theorem dX12_meetsAt_15 : decode cX12_meetsAt 15 = .ok (.iload_n 3, 1) := by decide +kernel
theorem dX12_meetsAt_16 : decode cX12_meetsAt 16 = .ok (.iload_n 1, 1) := by decide +kernel
theorem dX12_meetsAt_17 : decode cX12_meetsAt 17 = .ok (.invokevirtual 426, 3) := by decide +kernel
theorem dX12_meetsAt_20 : decode cX12_meetsAt 20 = .ok (.istore 4, 2) := by decide +kernel
theorem dX12_meetsAt_22 : decode cX12_meetsAt 22 = .ok (.iload 4, 2) := by decide +kernel
theorem dX12_meetsAt_24 : decode cX12_meetsAt 24 = .ok (.ifCond .ge 5, 3) := by decide +kernel
theorem dX12_meetsAt_27 : decode cX12_meetsAt 27 = .ok (.iconst (-1), 1) := by decide +kernel
theorem dX12_meetsAt_28 : decode cX12_meetsAt 28 = .ok (.ireturn, 1) := by decide +kernel
theorem dX12_meetsAt_29 : decode cX12_meetsAt 29 = .ok (.iload_n 2, 1) := by decide +kernel
theorem dX12_meetsAt_30 : decode cX12_meetsAt 30 = .ok (.iload 4, 2) := by decide +kernel
theorem dX12_meetsAt_32 : decode cX12_meetsAt 32 = .ok (.invokestatic 404, 3) := by decide +kernel
theorem dX12_meetsAt_35 : decode cX12_meetsAt 35 = .ok (.istore_n 2, 1) := by decide +kernel
theorem dX12_meetsAt_36 : decode cX12_meetsAt 36 = .ok (.iinc 3 1, 3) := by decide +kernel
theorem dX12_meetsAt_39 : decode cX12_meetsAt 39 = .ok (.goto (-35), 3) := by decide +kernel
theorem dX12_meetsAt_42 : decode cX12_meetsAt 42 = .ok (.iload_n 2, 1) := by decide +kernel
theorem dX12_meetsAt_43 : decode cX12_meetsAt 43 = .ok (.ireturn, 1) := by decide +kernel
theorem dX12_meeting_0 : decode cX12_meeting 0 = .ok (.aload_n 0, 1) := by decide +kernel
theorem dX12_meeting_1 : decode cX12_meeting 1 = .ok (.iconst 0, 1) := by decide +kernel
theorem dX12_meeting_2 : decode cX12_meeting 2 = .ok (.putfield 129, 3) := by decide +kernel
theorem dX12_meeting_5 : decode cX12_meeting 5 = .ok (.iload_n 1, 1) := by decide +kernel
theorem dX12_meeting_6 : decode cX12_meeting 6 = .ok (.iconst 0, 1) := by decide +kernel
theorem dX12_meeting_7 : decode cX12_meeting 7 = .ok (.iconst 1, 1) := by decide +kernel
theorem dX12_meeting_8 : decode cX12_meeting 8 = .ok (.invokestatic 252, 3) := by decide +kernel
theorem dX12_meeting_11 : decode cX12_meeting 11 = .ok (.ifCond .ne 5, 3) := by decide +kernel
theorem dX12_meeting_14 : decode cX12_meeting 14 = .ok (.iconst (-1), 1) := by decide +kernel
theorem dX12_meeting_15 : decode cX12_meeting 15 = .ok (.ireturn, 1) := by decide +kernel
theorem dX12_meeting_16 : decode cX12_meeting 16 = .ok (.iconst (-1), 1) := by decide +kernel
theorem dX12_meeting_17 : decode cX12_meeting 17 = .ok (.istore_n 2, 1) := by decide +kernel
theorem dX12_meeting_18 : decode cX12_meeting 18 = .ok (.iconst (-1), 1) := by decide +kernel
theorem dX12_meeting_19 : decode cX12_meeting 19 = .ok (.istore_n 3, 1) := by decide +kernel
theorem dX12_meeting_20 : decode cX12_meeting 20 = .ok (.iconst 0, 1) := by decide +kernel
theorem dX12_meeting_21 : decode cX12_meeting 21 = .ok (.istore 4, 2) := by decide +kernel
theorem dX12_meeting_23 : decode cX12_meeting 23 = .ok (.iload 4, 2) := by decide +kernel
theorem dX12_meeting_25 : decode cX12_meeting 25 = .ok (.aload_n 0, 1) := by decide +kernel
theorem dX12_meeting_26 : decode cX12_meeting 26 = .ok (.getfield 13, 3) := by decide +kernel
theorem dX12_meeting_29 : decode cX12_meeting 29 = .ok (.iconst 0, 1) := by decide +kernel
theorem dX12_meeting_30 : decode cX12_meeting 30 = .ok (.iaload, 1) := by decide +kernel
theorem dX12_meeting_31 : decode cX12_meeting 31 = .ok (.if_icmp .ge 41, 3) := by decide +kernel
theorem dX12_meeting_34 : decode cX12_meeting 34 = .ok (.aload_n 0, 1) := by decide +kernel
theorem dX12_meeting_35 : decode cX12_meeting 35 = .ok (.iload 4, 2) := by decide +kernel
theorem dX12_meeting_37 : decode cX12_meeting 37 = .ok (.invokevirtual 435, 3) := by decide +kernel
theorem dX12_meeting_40 : decode cX12_meeting 40 = .ok (.istore 5, 2) := by decide +kernel
theorem dX12_meeting_42 : decode cX12_meeting 42 = .ok (.iload 5, 2) := by decide +kernel
theorem dX12_meeting_44 : decode cX12_meeting 44 = .ok (.ifCond .lt 22, 3) := by decide +kernel
theorem dX12_meeting_47 : decode cX12_meeting 47 = .ok (.iload_n 2, 1) := by decide +kernel
theorem dX12_meeting_48 : decode cX12_meeting 48 = .ok (.ifCond .lt 12, 3) := by decide +kernel
theorem dX12_meeting_51 : decode cX12_meeting 51 = .ok (.iload 5, 2) := by decide +kernel
theorem dX12_meeting_53 : decode cX12_meeting 53 = .ok (.iload_n 3, 1) := by decide +kernel
theorem dX12_meeting_54 : decode cX12_meeting 54 = .ok (.if_icmp .lt 6, 3) := by decide +kernel
theorem dX12_meeting_57 : decode cX12_meeting 57 = .ok (.goto 9, 3) := by decide +kernel
theorem dX12_meeting_60 : decode cX12_meeting 60 = .ok (.iload 4, 2) := by decide +kernel
theorem dX12_meeting_62 : decode cX12_meeting 62 = .ok (.istore_n 2, 1) := by decide +kernel
theorem dX12_meeting_63 : decode cX12_meeting 63 = .ok (.iload 5, 2) := by decide +kernel
theorem dX12_meeting_65 : decode cX12_meeting 65 = .ok (.istore_n 3, 1) := by decide +kernel
theorem dX12_meeting_66 : decode cX12_meeting 66 = .ok (.iinc 4 1, 3) := by decide +kernel
theorem dX12_meeting_69 : decode cX12_meeting 69 = .ok (.goto (-46), 3) := by decide +kernel
theorem dX12_meeting_72 : decode cX12_meeting 72 = .ok (.iload_n 1, 1) := by decide +kernel
theorem dX12_meeting_73 : decode cX12_meeting 73 = .ok (.ifCond .ne 7, 3) := by decide +kernel
theorem dX12_meeting_76 : decode cX12_meeting 76 = .ok (.iload_n 3, 1) := by decide +kernel
theorem dX12_meeting_77 : decode cX12_meeting 77 = .ok (.goto 4, 3) := by decide +kernel
theorem dX12_meeting_80 : decode cX12_meeting 80 = .ok (.iload_n 2, 1) := by decide +kernel
theorem dX12_meeting_81 : decode cX12_meeting 81 = .ok (.ireturn, 1) := by decide +kernel
theorem dX12_speakers_0 : decode cX12_speakers 0 = .ok (.aload_n 0, 1) := by decide +kernel
theorem dX12_speakers_1 : decode cX12_speakers 1 = .ok (.iconst 0, 1) := by decide +kernel
theorem dX12_speakers_2 : decode cX12_speakers 2 = .ok (.putfield 129, 3) := by decide +kernel
theorem dX12_speakers_5 : decode cX12_speakers 5 = .ok (.aload_n 0, 1) := by decide +kernel
theorem dX12_speakers_6 : decode cX12_speakers 6 = .ok (.iload_n 1, 1) := by decide +kernel
theorem dX12_speakers_7 : decode cX12_speakers 7 = .ok (.invokevirtual 370, 3) := by decide +kernel
theorem dX12_speakers_10 : decode cX12_speakers 10 = .ok (.ifCond .eq 37, 3) := by decide +kernel
theorem dX12_speakers_13 : decode cX12_speakers 13 = .ok (.aload_n 0, 1) := by decide +kernel
theorem dX12_speakers_14 : decode cX12_speakers 14 = .ok (.iload_n 2, 1) := by decide +kernel
theorem dX12_speakers_15 : decode cX12_speakers 15 = .ok (.invokevirtual 373, 3) := by decide +kernel
theorem dX12_speakers_18 : decode cX12_speakers 18 = .ok (.ifCond .eq 29, 3) := by decide +kernel
theorem dX12_speakers_21 : decode cX12_speakers 21 = .ok (.aload_n 0, 1) := by decide +kernel
theorem dX12_speakers_22 : decode cX12_speakers 22 = .ok (.getfield 29, 3) := by decide +kernel
theorem dX12_speakers_25 : decode cX12_speakers 25 = .ok (.iload_n 1, 1) := by decide +kernel
theorem dX12_speakers_26 : decode cX12_speakers 26 = .ok (.iaload, 1) := by decide +kernel
theorem dX12_speakers_27 : decode cX12_speakers 27 = .ok (.iconst 1, 1) := by decide +kernel
theorem dX12_speakers_28 : decode cX12_speakers 28 = .ok (.if_icmp .ne 19, 3) := by decide +kernel
theorem dX12_speakers_31 : decode cX12_speakers 31 = .ok (.aload_n 0, 1) := by decide +kernel
theorem dX12_speakers_32 : decode cX12_speakers 32 = .ok (.aload_n 0, 1) := by decide +kernel
theorem dX12_speakers_33 : decode cX12_speakers 33 = .ok (.getfield 108, 3) := by decide +kernel
theorem dX12_speakers_36 : decode cX12_speakers 36 = .ok (.iconst 1, 1) := by decide +kernel
theorem dX12_speakers_37 : decode cX12_speakers 37 = .ok (.iload_n 1, 1) := by decide +kernel
theorem dX12_speakers_38 : decode cX12_speakers 38 = .ok (.iadd, 1) := by decide +kernel
theorem dX12_speakers_39 : decode cX12_speakers 39 = .ok (.iaload, 1) := by decide +kernel
theorem dX12_speakers_40 : decode cX12_speakers 40 = .ok (.iload_n 2, 1) := by decide +kernel
theorem dX12_speakers_41 : decode cX12_speakers 41 = .ok (.invokevirtual 358, 3) := by decide +kernel
theorem dX12_speakers_44 : decode cX12_speakers 44 = .ok (.goto 4, 3) := by decide +kernel
theorem dX12_speakers_47 : decode cX12_speakers 47 = .ok (.iconst (-1), 1) := by decide +kernel
theorem dX12_speakers_48 : decode cX12_speakers 48 = .ok (.ireturn, 1) := by decide +kernel
theorem dX12_strict_0 : decode cX12_strict 0 = .ok (.aload_n 0, 1) := by decide +kernel
theorem dX12_strict_1 : decode cX12_strict 1 = .ok (.iconst 0, 1) := by decide +kernel
theorem dX12_strict_2 : decode cX12_strict 2 = .ok (.putfield 129, 3) := by decide +kernel
theorem dX12_strict_5 : decode cX12_strict 5 = .ok (.iconst (-1), 1) := by decide +kernel
theorem dX12_strict_6 : decode cX12_strict 6 = .ok (.istore_n 1, 1) := by decide +kernel
theorem dX12_strict_7 : decode cX12_strict 7 = .ok (.iconst 0, 1) := by decide +kernel
theorem dX12_strict_8 : decode cX12_strict 8 = .ok (.istore_n 2, 1) := by decide +kernel
theorem dX12_strict_9 : decode cX12_strict 9 = .ok (.iload_n 2, 1) := by decide +kernel
theorem dX12_strict_10 : decode cX12_strict 10 = .ok (.aload_n 0, 1) := by decide +kernel
theorem dX12_strict_11 : decode cX12_strict 11 = .ok (.getfield 13, 3) := by decide +kernel
theorem dX12_strict_14 : decode cX12_strict 14 = .ok (.iconst 0, 1) := by decide +kernel
theorem dX12_strict_15 : decode cX12_strict 15 = .ok (.iaload, 1) := by decide +kernel
theorem dX12_strict_16 : decode cX12_strict 16 = .ok (.if_icmp .ge 34, 3) := by decide +kernel
theorem dX12_strict_19 : decode cX12_strict 19 = .ok (.iload_n 1, 1) := by decide +kernel
theorem dX12_strict_20 : decode cX12_strict 20 = .ok (.ifCond .lt 22, 3) := by decide +kernel
theorem dX12_strict_23 : decode cX12_strict 23 = .ok (.aload_n 0, 1) := by decide +kernel
theorem dX12_strict_24 : decode cX12_strict 24 = .ok (.iload_n 2, 1) := by decide +kernel
theorem dX12_strict_25 : decode cX12_strict 25 = .ok (.invokevirtual 376, 3) := by decide +kernel
theorem dX12_strict_28 : decode cX12_strict 28 = .ok (.invokestatic 438, 3) := by decide +kernel
theorem dX12_strict_31 : decode cX12_strict 31 = .ok (.aload_n 0, 1) := by decide +kernel
theorem dX12_strict_32 : decode cX12_strict 32 = .ok (.iload_n 1, 1) := by decide +kernel
theorem dX12_strict_33 : decode cX12_strict 33 = .ok (.invokevirtual 376, 3) := by decide +kernel
theorem dX12_strict_36 : decode cX12_strict 36 = .ok (.invokestatic 438, 3) := by decide +kernel
theorem dX12_strict_39 : decode cX12_strict 39 = .ok (.if_icmp .ge 5, 3) := by decide +kernel
theorem dX12_strict_42 : decode cX12_strict 42 = .ok (.iload_n 2, 1) := by decide +kernel
theorem dX12_strict_43 : decode cX12_strict 43 = .ok (.istore_n 1, 1) := by decide +kernel
theorem dX12_strict_44 : decode cX12_strict 44 = .ok (.iinc 2 1, 3) := by decide +kernel
theorem dX12_strict_47 : decode cX12_strict 47 = .ok (.goto (-38), 3) := by decide +kernel
theorem dX12_strict_50 : decode cX12_strict 50 = .ok (.iload_n 1, 1) := by decide +kernel
theorem dX12_strict_51 : decode cX12_strict 51 = .ok (.ireturn, 1) := by decide +kernel
theorem dX12_alike_0 : decode cX12_alike 0 = .ok (.aload_n 0, 1) := by decide +kernel
theorem dX12_alike_1 : decode cX12_alike 1 = .ok (.iconst 0, 1) := by decide +kernel
theorem dX12_alike_2 : decode cX12_alike 2 = .ok (.putfield 129, 3) := by decide +kernel
theorem dX12_alike_5 : decode cX12_alike 5 = .ok (.iconst 0, 1) := by decide +kernel
theorem dX12_alike_6 : decode cX12_alike 6 = .ok (.istore_n 1, 1) := by decide +kernel
theorem dX12_alike_7 : decode cX12_alike 7 = .ok (.iconst 0, 1) := by decide +kernel
theorem dX12_alike_8 : decode cX12_alike 8 = .ok (.istore_n 2, 1) := by decide +kernel
theorem dX12_alike_9 : decode cX12_alike 9 = .ok (.iload_n 2, 1) := by decide +kernel
theorem dX12_alike_10 : decode cX12_alike 10 = .ok (.aload_n 0, 1) := by decide +kernel
theorem dX12_alike_11 : decode cX12_alike 11 = .ok (.getfield 13, 3) := by decide +kernel
theorem dX12_alike_14 : decode cX12_alike 14 = .ok (.iconst 0, 1) := by decide +kernel
theorem dX12_alike_15 : decode cX12_alike 15 = .ok (.iaload, 1) := by decide +kernel
theorem dX12_alike_16 : decode cX12_alike 16 = .ok (.if_icmp .ge 43, 3) := by decide +kernel
theorem dX12_alike_19 : decode cX12_alike 19 = .ok (.iconst 0, 1) := by decide +kernel
theorem dX12_alike_20 : decode cX12_alike 20 = .ok (.istore_n 3, 1) := by decide +kernel
theorem dX12_alike_21 : decode cX12_alike 21 = .ok (.iload_n 3, 1) := by decide +kernel
theorem dX12_alike_22 : decode cX12_alike 22 = .ok (.iload_n 2, 1) := by decide +kernel
theorem dX12_alike_23 : decode cX12_alike 23 = .ok (.if_icmp .ge 30, 3) := by decide +kernel
theorem dX12_alike_26 : decode cX12_alike 26 = .ok (.iload_n 1, 1) := by decide +kernel
theorem dX12_alike_27 : decode cX12_alike 27 = .ok (.aload_n 0, 1) := by decide +kernel
theorem dX12_alike_28 : decode cX12_alike 28 = .ok (.iload_n 2, 1) := by decide +kernel
theorem dX12_alike_29 : decode cX12_alike 29 = .ok (.invokevirtual 376, 3) := by decide +kernel
theorem dX12_alike_32 : decode cX12_alike 32 = .ok (.aload_n 0, 1) := by decide +kernel
theorem dX12_alike_33 : decode cX12_alike 33 = .ok (.iload_n 3, 1) := by decide +kernel
theorem dX12_alike_34 : decode cX12_alike 34 = .ok (.invokevirtual 376, 3) := by decide +kernel
theorem dX12_alike_37 : decode cX12_alike 37 = .ok (.if_icmp .ne 7, 3) := by decide +kernel
theorem dX12_alike_40 : decode cX12_alike 40 = .ok (.iconst 1, 1) := by decide +kernel
theorem dX12_alike_41 : decode cX12_alike 41 = .ok (.goto 4, 3) := by decide +kernel
theorem dX12_alike_44 : decode cX12_alike 44 = .ok (.iconst 0, 1) := by decide +kernel
theorem dX12_alike_45 : decode cX12_alike 45 = .ok (.iadd, 1) := by decide +kernel
theorem dX12_alike_46 : decode cX12_alike 46 = .ok (.istore_n 1, 1) := by decide +kernel
theorem dX12_alike_47 : decode cX12_alike 47 = .ok (.iinc 3 1, 3) := by decide +kernel
theorem dX12_alike_50 : decode cX12_alike 50 = .ok (.goto (-29), 3) := by decide +kernel
theorem dX12_alike_53 : decode cX12_alike 53 = .ok (.iinc 2 1, 3) := by decide +kernel
theorem dX12_alike_56 : decode cX12_alike 56 = .ok (.goto (-47), 3) := by decide +kernel
theorem dX12_alike_59 : decode cX12_alike 59 = .ok (.iload_n 1, 1) := by decide +kernel
theorem dX12_alike_60 : decode cX12_alike 60 = .ok (.ireturn, 1) := by decide +kernel
theorem dX12_see_0 : decode cX12_see 0 = .ok (.aload_n 0, 1) := by decide +kernel
theorem dX12_see_1 : decode cX12_see 1 = .ok (.iconst 0, 1) := by decide +kernel
theorem dX12_see_2 : decode cX12_see 2 = .ok (.putfield 129, 3) := by decide +kernel
theorem dX12_see_5 : decode cX12_see 5 = .ok (.aload_n 0, 1) := by decide +kernel
theorem dX12_see_6 : decode cX12_see 6 = .ok (.iload_n 1, 1) := by decide +kernel
theorem dX12_see_7 : decode cX12_see 7 = .ok (.invokevirtual 373, 3) := by decide +kernel
theorem dX12_see_10 : decode cX12_see 10 = .ok (.ifCond .eq 14, 3) := by decide +kernel
theorem dX12_see_13 : decode cX12_see 13 = .ok (.aload_n 0, 1) := by decide +kernel
theorem dX12_see_14 : decode cX12_see 14 = .ok (.getfield 99, 3) := by decide +kernel
theorem dX12_see_17 : decode cX12_see 17 = .ok (.iconst 0, 1) := by decide +kernel
theorem dX12_see_18 : decode cX12_see 18 = .ok (.iaload, 1) := by decide +kernel
theorem dX12_see_19 : decode cX12_see 19 = .ok (.bipush 8, 2) := by decide +kernel
theorem dX12_see_21 : decode cX12_see 21 = .ok (.if_icmp .ne 5, 3) := by decide +kernel
theorem dX12_see_24 : decode cX12_see 24 = .ok (.iconst 0, 1) := by decide +kernel
theorem dX12_see_25 : decode cX12_see 25 = .ok (.ireturn, 1) := by decide +kernel
theorem dX12_see_26 : decode cX12_see 26 = .ok (.aload_n 0, 1) := by decide +kernel
theorem dX12_see_27 : decode cX12_see 27 = .ok (.getfield 102, 3) := by decide +kernel
theorem dX12_see_30 : decode cX12_see 30 = .ok (.aload_n 0, 1) := by decide +kernel
theorem dX12_see_31 : decode cX12_see 31 = .ok (.getfield 99, 3) := by decide +kernel
theorem dX12_see_34 : decode cX12_see 34 = .ok (.iconst 0, 1) := by decide +kernel
theorem dX12_see_35 : decode cX12_see 35 = .ok (.iaload, 1) := by decide +kernel
theorem dX12_see_36 : decode cX12_see 36 = .ok (.iload_n 1, 1) := by decide +kernel
theorem dX12_see_37 : decode cX12_see 37 = .ok (.iastore, 1) := by decide +kernel
theorem dX12_see_38 : decode cX12_see 38 = .ok (.aload_n 0, 1) := by decide +kernel
theorem dX12_see_39 : decode cX12_see 39 = .ok (.getfield 105, 3) := by decide +kernel
theorem dX12_see_42 : decode cX12_see 42 = .ok (.aload_n 0, 1) := by decide +kernel
theorem dX12_see_43 : decode cX12_see 43 = .ok (.getfield 99, 3) := by decide +kernel
theorem dX12_see_46 : decode cX12_see 46 = .ok (.iconst 0, 1) := by decide +kernel
theorem dX12_see_47 : decode cX12_see 47 = .ok (.iaload, 1) := by decide +kernel
theorem dX12_see_48 : decode cX12_see 48 = .ok (.iload_n 2, 1) := by decide +kernel
theorem dX12_see_49 : decode cX12_see 49 = .ok (.bastore, 1) := by decide +kernel
theorem dX12_see_50 : decode cX12_see 50 = .ok (.aload_n 0, 1) := by decide +kernel
theorem dX12_see_51 : decode cX12_see 51 = .ok (.getfield 99, 3) := by decide +kernel
theorem dX12_see_54 : decode cX12_see 54 = .ok (.iconst 0, 1) := by decide +kernel
theorem dX12_see_55 : decode cX12_see 55 = .ok (.dup2, 1) := by decide +kernel
theorem dX12_see_56 : decode cX12_see 56 = .ok (.iaload, 1) := by decide +kernel
theorem dX12_see_57 : decode cX12_see 57 = .ok (.iconst 1, 1) := by decide +kernel
theorem dX12_see_58 : decode cX12_see 58 = .ok (.iadd, 1) := by decide +kernel
theorem dX12_see_59 : decode cX12_see 59 = .ok (.iastore, 1) := by decide +kernel
theorem dX12_see_60 : decode cX12_see 60 = .ok (.iconst 1, 1) := by decide +kernel
theorem dX12_see_61 : decode cX12_see 61 = .ok (.ireturn, 1) := by decide +kernel
theorem dX12_isAsSeen_0 : decode cX12_isAsSeen 0 = .ok (.iconst 0, 1) := by decide +kernel
theorem dX12_isAsSeen_1 : decode cX12_isAsSeen 1 = .ok (.istore_n 2, 1) := by decide +kernel
theorem dX12_isAsSeen_2 : decode cX12_isAsSeen 2 = .ok (.iload_n 2, 1) := by decide +kernel
theorem dX12_isAsSeen_3 : decode cX12_isAsSeen 3 = .ok (.aload_n 0, 1) := by decide +kernel
theorem dX12_isAsSeen_4 : decode cX12_isAsSeen 4 = .ok (.getfield 99, 3) := by decide +kernel
theorem dX12_isAsSeen_7 : decode cX12_isAsSeen 7 = .ok (.iconst 0, 1) := by decide +kernel
theorem dX12_isAsSeen_8 : decode cX12_isAsSeen 8 = .ok (.iaload, 1) := by decide +kernel
theorem dX12_isAsSeen_9 : decode cX12_isAsSeen 9 = .ok (.if_icmp .ge 37, 3) := by decide +kernel
theorem dX12_isAsSeen_12 : decode cX12_isAsSeen 12 = .ok (.aload_n 0, 1) := by decide +kernel
theorem dX12_isAsSeen_13 : decode cX12_isAsSeen 13 = .ok (.iload_n 1, 1) := by decide +kernel
theorem dX12_isAsSeen_14 : decode cX12_isAsSeen 14 = .ok (.iconst 0, 1) := by decide +kernel
theorem dX12_isAsSeen_15 : decode cX12_isAsSeen 15 = .ok (.aload_n 0, 1) := by decide +kernel
theorem dX12_isAsSeen_16 : decode cX12_isAsSeen 16 = .ok (.getfield 23, 3) := by decide +kernel
theorem dX12_isAsSeen_19 : decode cX12_isAsSeen 19 = .ok (.aload_n 0, 1) := by decide +kernel
theorem dX12_isAsSeen_20 : decode cX12_isAsSeen 20 = .ok (.getfield 102, 3) := by decide +kernel
theorem dX12_isAsSeen_23 : decode cX12_isAsSeen 23 = .ok (.iload_n 2, 1) := by decide +kernel
theorem dX12_isAsSeen_24 : decode cX12_isAsSeen 24 = .ok (.iaload, 1) := by decide +kernel
theorem dX12_isAsSeen_25 : decode cX12_isAsSeen 25 = .ok (.iaload, 1) := by decide +kernel
theorem dX12_isAsSeen_26 : decode cX12_isAsSeen 26 = .ok (.invokevirtual 352, 3) := by decide +kernel
theorem dX12_isAsSeen_29 : decode cX12_isAsSeen 29 = .ok (.aload_n 0, 1) := by decide +kernel
theorem dX12_isAsSeen_30 : decode cX12_isAsSeen 30 = .ok (.getfield 105, 3) := by decide +kernel
theorem dX12_isAsSeen_33 : decode cX12_isAsSeen 33 = .ok (.iload_n 2, 1) := by decide +kernel
theorem dX12_isAsSeen_34 : decode cX12_isAsSeen 34 = .ok (.baload, 1) := by decide +kernel
theorem dX12_isAsSeen_35 : decode cX12_isAsSeen 35 = .ok (.if_icmp .eq 5, 3) := by decide +kernel
theorem dX12_isAsSeen_38 : decode cX12_isAsSeen 38 = .ok (.iconst 0, 1) := by decide +kernel
theorem dX12_isAsSeen_39 : decode cX12_isAsSeen 39 = .ok (.ireturn, 1) := by decide +kernel
theorem dX12_isAsSeen_40 : decode cX12_isAsSeen 40 = .ok (.iinc 2 1, 3) := by decide +kernel
theorem dX12_isAsSeen_43 : decode cX12_isAsSeen 43 = .ok (.goto (-41), 3) := by decide +kernel
theorem dX12_isAsSeen_46 : decode cX12_isAsSeen 46 = .ok (.iconst 1, 1) := by decide +kernel
theorem dX12_isAsSeen_47 : decode cX12_isAsSeen 47 = .ok (.ireturn, 1) := by decide +kernel
theorem dX12_lengths_0 : decode cX12_lengths 0 = .ok (.aload_n 0, 1) := by decide +kernel
theorem dX12_lengths_1 : decode cX12_lengths 1 = .ok (.iconst 0, 1) := by decide +kernel
theorem dX12_lengths_2 : decode cX12_lengths 2 = .ok (.putfield 129, 3) := by decide +kernel
theorem dX12_lengths_5 : decode cX12_lengths 5 = .ok (.iload_n 1, 1) := by decide +kernel
theorem dX12_lengths_6 : decode cX12_lengths 6 = .ok (.iconst 0, 1) := by decide +kernel
theorem dX12_lengths_7 : decode cX12_lengths 7 = .ok (.iconst 2, 1) := by decide +kernel
theorem dX12_lengths_8 : decode cX12_lengths 8 = .ok (.invokestatic 252, 3) := by decide +kernel
theorem dX12_lengths_11 : decode cX12_lengths 11 = .ok (.ifCond .ne 5, 3) := by decide +kernel
theorem dX12_lengths_14 : decode cX12_lengths 14 = .ok (.iconst (-1), 1) := by decide +kernel
theorem dX12_lengths_15 : decode cX12_lengths 15 = .ok (.ireturn, 1) := by decide +kernel
theorem dX12_lengths_16 : decode cX12_lengths 16 = .ok (.iconst 0, 1) := by decide +kernel
theorem dX12_lengths_17 : decode cX12_lengths 17 = .ok (.istore_n 2, 1) := by decide +kernel
theorem dX12_lengths_18 : decode cX12_lengths 18 = .ok (.iconst (-1), 1) := by decide +kernel
theorem dX12_lengths_19 : decode cX12_lengths 19 = .ok (.istore_n 3, 1) := by decide +kernel
theorem dX12_lengths_20 : decode cX12_lengths 20 = .ok (.iconst (-1), 1) := by decide +kernel
theorem dX12_lengths_21 : decode cX12_lengths 21 = .ok (.istore 4, 2) := by decide +kernel
theorem dX12_lengths_23 : decode cX12_lengths 23 = .ok (.iconst 0, 1) := by decide +kernel
theorem dX12_lengths_24 : decode cX12_lengths 24 = .ok (.istore 5, 2) := by decide +kernel
theorem dX12_lengths_26 : decode cX12_lengths 26 = .ok (.iload 5, 2) := by decide +kernel
theorem dX12_lengths_28 : decode cX12_lengths 28 = .ok (.bipush 31, 2) := by decide +kernel
theorem dX12_lengths_30 : decode cX12_lengths 30 = .ok (.if_icmp .ge 35, 3) := by decide +kernel
theorem dX12_lengths_33 : decode cX12_lengths 33 = .ok (.aload_n 0, 1) := by decide +kernel
theorem dX12_lengths_34 : decode cX12_lengths 34 = .ok (.iload 5, 2) := by decide +kernel
theorem dX12_lengths_36 : decode cX12_lengths 36 = .ok (.invokevirtual 441, 3) := by decide +kernel
theorem dX12_lengths_39 : decode cX12_lengths 39 = .ok (.ifCond .ne 6, 3) := by decide +kernel
theorem dX12_lengths_42 : decode cX12_lengths 42 = .ok (.goto 17, 3) := by decide +kernel
theorem dX12_lengths_45 : decode cX12_lengths 45 = .ok (.iinc 2 1, 3) := by decide +kernel
theorem dX12_lengths_48 : decode cX12_lengths 48 = .ok (.iload_n 3, 1) := by decide +kernel
theorem dX12_lengths_49 : decode cX12_lengths 49 = .ok (.ifCond .ge 6, 3) := by decide +kernel
theorem dX12_lengths_52 : decode cX12_lengths 52 = .ok (.iload 5, 2) := by decide +kernel
theorem dX12_lengths_54 : decode cX12_lengths 54 = .ok (.istore_n 3, 1) := by decide +kernel
theorem dX12_lengths_55 : decode cX12_lengths 55 = .ok (.iload 5, 2) := by decide +kernel
theorem dX12_lengths_57 : decode cX12_lengths 57 = .ok (.istore 4, 2) := by decide +kernel
theorem dX12_lengths_59 : decode cX12_lengths 59 = .ok (.iinc 5 1, 3) := by decide +kernel
theorem dX12_lengths_62 : decode cX12_lengths 62 = .ok (.goto (-36), 3) := by decide +kernel
theorem dX12_lengths_65 : decode cX12_lengths 65 = .ok (.iload_n 1, 1) := by decide +kernel
theorem dX12_lengths_66 : decode cX12_lengths 66 = .ok (.ifCond .ne 7, 3) := by decide +kernel
theorem dX12_lengths_69 : decode cX12_lengths 69 = .ok (.iload_n 2, 1) := by decide +kernel
theorem dX12_lengths_70 : decode cX12_lengths 70 = .ok (.goto 14, 3) := by decide +kernel
theorem dX12_lengths_73 : decode cX12_lengths 73 = .ok (.iload_n 1, 1) := by decide +kernel
theorem dX12_lengths_74 : decode cX12_lengths 74 = .ok (.iconst 1, 1) := by decide +kernel
theorem dX12_lengths_75 : decode cX12_lengths 75 = .ok (.if_icmp .ne 7, 3) := by decide +kernel
theorem dX12_lengths_78 : decode cX12_lengths 78 = .ok (.iload_n 3, 1) := by decide +kernel
theorem dX12_lengths_79 : decode cX12_lengths 79 = .ok (.goto 5, 3) := by decide +kernel
theorem dX12_lengths_82 : decode cX12_lengths 82 = .ok (.iload 4, 2) := by decide +kernel
theorem dX12_lengths_84 : decode cX12_lengths 84 = .ok (.ireturn, 1) := by decide +kernel
theorem dX12_ask_0 : decode cX12_ask 0 = .ok (.aload_n 0, 1) := by decide +kernel
theorem dX12_ask_1 : decode cX12_ask 1 = .ok (.iconst 0, 1) := by decide +kernel
theorem dX12_ask_2 : decode cX12_ask 2 = .ok (.putfield 129, 3) := by decide +kernel
theorem dX12_ask_5 : decode cX12_ask 5 = .ok (.aload_n 0, 1) := by decide +kernel
theorem dX12_ask_6 : decode cX12_ask 6 = .ok (.iconst 0, 1) := by decide +kernel
theorem dX12_ask_7 : decode cX12_ask 7 = .ok (.invokevirtual 444, 3) := by decide +kernel
theorem dX12_ask_10 : decode cX12_ask 10 = .ok (.istore_n 1, 1) := by decide +kernel
theorem dX12_ask_11 : decode cX12_ask 11 = .ok (.iload_n 1, 1) := by decide +kernel
theorem dX12_ask_12 : decode cX12_ask 12 = .ok (.istore_n 2, 1) := by decide +kernel
theorem dX12_ask_13 : decode cX12_ask 13 = .ok (.iconst (-1), 1) := by decide +kernel
theorem dX12_ask_14 : decode cX12_ask 14 = .ok (.istore_n 3, 1) := by decide +kernel
theorem dX12_ask_15 : decode cX12_ask 15 = .ok (.iconst 0, 1) := by decide +kernel
