theorem dX0_passesAlone_0 : decode cX0_passesAlone 0 = .ok (.aload_n 0, 1) := by decide +kernel
theorem dX0_passesAlone_1 : decode cX0_passesAlone 1 = .ok (.getfield 9, 3) := by decide +kernel
theorem dX0_passesAlone_4 : decode cX0_passesAlone 4 = .ok (.getfield 15, 3) := by decide +kernel
theorem dX0_passesAlone_7 : decode cX0_passesAlone 7 = .ok (.iload_n 2, 1) := by decide +kernel
theorem dX0_passesAlone_8 : decode cX0_passesAlone 8 = .ok (.iaload, 1) := by decide +kernel
theorem dX0_passesAlone_9 : decode cX0_passesAlone 9 = .ok (.istore 5, 2) := by decide +kernel
theorem dX0_passesAlone_11 : decode cX0_passesAlone 11 = .ok (.iload 5, 2) := by decide +kernel
theorem dX0_passesAlone_13 : decode cX0_passesAlone 13 = .ok (.iconst 2, 1) := by decide +kernel
theorem dX0_passesAlone_14 : decode cX0_passesAlone 14 = .ok (.if_icmp .ne 5, 3) := by decide +kernel
theorem dX0_passesAlone_17 : decode cX0_passesAlone 17 = .ok (.iconst 1, 1) := by decide +kernel
theorem dX0_passesAlone_18 : decode cX0_passesAlone 18 = .ok (.ireturn, 1) := by decide +kernel
theorem dX0_passesAlone_19 : decode cX0_passesAlone 19 = .ok (.aload_n 0, 1) := by decide +kernel
theorem dX0_passesAlone_20 : decode cX0_passesAlone 20 = .ok (.getfield 9, 3) := by decide +kernel
theorem dX0_passesAlone_23 : decode cX0_passesAlone 23 = .ok (.getfield 21, 3) := by decide +kernel
theorem dX0_passesAlone_26 : decode cX0_passesAlone 26 = .ok (.iload_n 3, 1) := by decide +kernel
theorem dX0_passesAlone_27 : decode cX0_passesAlone 27 = .ok (.iaload, 1) := by decide +kernel
theorem dX0_passesAlone_28 : decode cX0_passesAlone 28 = .ok (.iload 4, 2) := by decide +kernel
theorem dX0_passesAlone_30 : decode cX0_passesAlone 30 = .ok (.iadd, 1) := by decide +kernel
theorem dX0_passesAlone_31 : decode cX0_passesAlone 31 = .ok (.istore 6, 2) := by decide +kernel
theorem dX0_passesAlone_33 : decode cX0_passesAlone 33 = .ok (.aload_n 1, 1) := by decide +kernel
theorem dX0_passesAlone_34 : decode cX0_passesAlone 34 = .ok (.getfield 24, 3) := by decide +kernel
theorem dX0_passesAlone_37 : decode cX0_passesAlone 37 = .ok (.iload_n 2, 1) := by decide +kernel
theorem dX0_passesAlone_38 : decode cX0_passesAlone 38 = .ok (.iaload, 1) := by decide +kernel
theorem dX0_passesAlone_39 : decode cX0_passesAlone 39 = .ok (.istore 7, 2) := by decide +kernel
theorem dX0_passesAlone_41 : decode cX0_passesAlone 41 = .ok (.aload_n 0, 1) := by decide +kernel
theorem dX0_passesAlone_42 : decode cX0_passesAlone 42 = .ok (.getfield 9, 3) := by decide +kernel
theorem dX0_passesAlone_45 : decode cX0_passesAlone 45 = .ok (.getfield 29, 3) := by decide +kernel
theorem dX0_passesAlone_48 : decode cX0_passesAlone 48 = .ok (.aload_n 1, 1) := by decide +kernel
theorem dX0_passesAlone_49 : decode cX0_passesAlone 49 = .ok (.getfield 33, 3) := by decide +kernel
theorem dX0_passesAlone_52 : decode cX0_passesAlone 52 = .ok (.iload_n 2, 1) := by decide +kernel
theorem dX0_passesAlone_53 : decode cX0_passesAlone 53 = .ok (.iaload, 1) := by decide +kernel
theorem dX0_passesAlone_54 : decode cX0_passesAlone 54 = .ok (.iload 7, 2) := by decide +kernel
theorem dX0_passesAlone_56 : decode cX0_passesAlone 56 = .ok (.iadd, 1) := by decide +kernel
theorem dX0_passesAlone_57 : decode cX0_passesAlone 57 = .ok (.iload 7, 2) := by decide +kernel
theorem dX0_passesAlone_59 : decode cX0_passesAlone 59 = .ok (.iload 5, 2) := by decide +kernel
theorem dX0_passesAlone_61 : decode cX0_passesAlone 61 = .ok (.iconst 3, 1) := by decide +kernel
theorem dX0_passesAlone_62 : decode cX0_passesAlone 62 = .ok (.if_icmp .ne 10, 3) := by decide +kernel
theorem dX0_passesAlone_65 : decode cX0_passesAlone 65 = .ok (.iload 6, 2) := by decide +kernel
theorem dX0_passesAlone_67 : decode cX0_passesAlone 67 = .ok (.iconst 2, 1) := by decide +kernel
theorem dX0_passesAlone_68 : decode cX0_passesAlone 68 = .ok (.idiv, 1) := by decide +kernel
theorem dX0_passesAlone_69 : decode cX0_passesAlone 69 = .ok (.goto 5, 3) := by decide +kernel
theorem dX0_passesAlone_72 : decode cX0_passesAlone 72 = .ok (.iload 6, 2) := by decide +kernel
theorem dX0_passesAlone_74 : decode cX0_passesAlone 74 = .ok (.aload_n 1, 1) := by decide +kernel
theorem dX0_passesAlone_75 : decode cX0_passesAlone 75 = .ok (.getfield 36, 3) := by decide +kernel
theorem dX0_passesAlone_78 : decode cX0_passesAlone 78 = .ok (.invokevirtual 40, 3) := by decide +kernel
theorem dX0_passesAlone_81 : decode cX0_passesAlone 81 = .ok (.ireturn, 1) := by decide +kernel
theorem dX0_opens_0 : decode cX0_opens 0 = .ok (.iconst 0, 1) := by decide +kernel
theorem dX0_opens_1 : decode cX0_opens 1 = .ok (.istore 4, 2) := by decide +kernel
theorem dX0_opens_3 : decode cX0_opens 3 = .ok (.iconst 0, 1) := by decide +kernel
theorem dX0_opens_4 : decode cX0_opens 4 = .ok (.istore 5, 2) := by decide +kernel
theorem dX0_opens_6 : decode cX0_opens 6 = .ok (.iload 5, 2) := by decide +kernel
theorem dX0_opens_8 : decode cX0_opens 8 = .ok (.aload_n 0, 1) := by decide +kernel
theorem dX0_opens_9 : decode cX0_opens 9 = .ok (.getfield 9, 3) := by decide +kernel
theorem dX0_opens_12 : decode cX0_opens 12 = .ok (.getfield 46, 3) := by decide +kernel
theorem dX0_opens_15 : decode cX0_opens 15 = .ok (.if_icmp .ge 30, 3) := by decide +kernel
theorem dX0_opens_18 : decode cX0_opens 18 = .ok (.aload_n 0, 1) := by decide +kernel
theorem dX0_opens_19 : decode cX0_opens 19 = .ok (.aload_n 1, 1) := by decide +kernel
theorem dX0_opens_20 : decode cX0_opens 20 = .ok (.iload_n 2, 1) := by decide +kernel
theorem dX0_opens_21 : decode cX0_opens 21 = .ok (.iload 5, 2) := by decide +kernel
theorem dX0_opens_23 : decode cX0_opens 23 = .ok (.iload_n 3, 1) := by decide +kernel
theorem dX0_opens_24 : decode cX0_opens 24 = .ok (.invokevirtual 49, 3) := by decide +kernel
theorem dX0_opens_27 : decode cX0_opens 27 = .ok (.ifCond .eq 12, 3) := by decide +kernel
theorem dX0_opens_30 : decode cX0_opens 30 = .ok (.iload 4, 2) := by decide +kernel
theorem dX0_opens_32 : decode cX0_opens 32 = .ok (.iconst 1, 1) := by decide +kernel
theorem dX0_opens_33 : decode cX0_opens 33 = .ok (.iload 5, 2) := by decide +kernel
theorem dX0_opens_35 : decode cX0_opens 35 = .ok (.ishl, 1) := by decide +kernel
theorem dX0_opens_36 : decode cX0_opens 36 = .ok (.ior, 1) := by decide +kernel
theorem dX0_opens_37 : decode cX0_opens 37 = .ok (.istore 4, 2) := by decide +kernel
theorem dX0_opens_39 : decode cX0_opens 39 = .ok (.iinc 5 1, 3) := by decide +kernel
theorem dX0_opens_42 : decode cX0_opens 42 = .ok (.goto (-36), 3) := by decide +kernel
theorem dX0_opens_45 : decode cX0_opens 45 = .ok (.iload 4, 2) := by decide +kernel
theorem dX0_opens_47 : decode cX0_opens 47 = .ok (.ireturn, 1) := by decide +kernel
theorem dX0_voices_0 : decode cX0_voices 0 = .ok (.iconst 0, 1) := by decide +kernel
theorem dX0_voices_1 : decode cX0_voices 1 = .ok (.istore 4, 2) := by decide +kernel
theorem dX0_voices_3 : decode cX0_voices 3 = .ok (.iconst 0, 1) := by decide +kernel
theorem dX0_voices_4 : decode cX0_voices 4 = .ok (.istore 5, 2) := by decide +kernel
theorem dX0_voices_6 : decode cX0_voices 6 = .ok (.iload 5, 2) := by decide +kernel
theorem dX0_voices_8 : decode cX0_voices 8 = .ok (.aload_n 0, 1) := by decide +kernel
theorem dX0_voices_9 : decode cX0_voices 9 = .ok (.getfield 9, 3) := by decide +kernel
theorem dX0_voices_12 : decode cX0_voices 12 = .ok (.getfield 53, 3) := by decide +kernel
theorem dX0_voices_15 : decode cX0_voices 15 = .ok (.if_icmp .ge 55, 3) := by decide +kernel
theorem dX0_voices_18 : decode cX0_voices 18 = .ok (.aload_n 0, 1) := by decide +kernel
theorem dX0_voices_19 : decode cX0_voices 19 = .ok (.getfield 9, 3) := by decide +kernel
theorem dX0_voices_22 : decode cX0_voices 22 = .ok (.getfield 15, 3) := by decide +kernel
theorem dX0_voices_25 : decode cX0_voices 25 = .ok (.iload 5, 2) := by decide +kernel
theorem dX0_voices_27 : decode cX0_voices 27 = .ok (.iaload, 1) := by decide +kernel
theorem dX0_voices_28 : decode cX0_voices 28 = .ok (.iconst 1, 1) := by decide +kernel
theorem dX0_voices_29 : decode cX0_voices 29 = .ok (.if_icmp .eq 35, 3) := by decide +kernel
theorem dX0_voices_32 : decode cX0_voices 32 = .ok (.aload_n 1, 1) := by decide +kernel
theorem dX0_voices_33 : decode cX0_voices 33 = .ok (.getfield 56, 3) := by decide +kernel
theorem dX0_voices_36 : decode cX0_voices 36 = .ok (.iload 5, 2) := by decide +kernel
theorem dX0_voices_38 : decode cX0_voices 38 = .ok (.iaload, 1) := by decide +kernel
theorem dX0_voices_39 : decode cX0_voices 39 = .ok (.iload_n 2, 1) := by decide +kernel
theorem dX0_voices_40 : decode cX0_voices 40 = .ok (.if_icmp .ne 24, 3) := by decide +kernel
theorem dX0_voices_43 : decode cX0_voices 43 = .ok (.aload_n 0, 1) := by decide +kernel
theorem dX0_voices_44 : decode cX0_voices 44 = .ok (.aload_n 1, 1) := by decide +kernel
theorem dX0_voices_45 : decode cX0_voices 45 = .ok (.iload 5, 2) := by decide +kernel
theorem dX0_voices_47 : decode cX0_voices 47 = .ok (.iload_n 3, 1) := by decide +kernel
theorem dX0_voices_48 : decode cX0_voices 48 = .ok (.iconst 0, 1) := by decide +kernel
theorem dX0_voices_49 : decode cX0_voices 49 = .ok (.invokevirtual 49, 3) := by decide +kernel
theorem dX0_voices_52 : decode cX0_voices 52 = .ok (.ifCond .eq 12, 3) := by decide +kernel
theorem dX0_voices_55 : decode cX0_voices 55 = .ok (.iload 4, 2) := by decide +kernel
theorem dX0_voices_57 : decode cX0_voices 57 = .ok (.iconst 1, 1) := by decide +kernel
theorem dX0_voices_58 : decode cX0_voices 58 = .ok (.iload 5, 2) := by decide +kernel
theorem dX0_voices_60 : decode cX0_voices 60 = .ok (.ishl, 1) := by decide +kernel
theorem dX0_voices_61 : decode cX0_voices 61 = .ok (.ior, 1) := by decide +kernel
theorem dX0_voices_62 : decode cX0_voices 62 = .ok (.istore 4, 2) := by decide +kernel
theorem dX0_voices_64 : decode cX0_voices 64 = .ok (.iinc 5 1, 3) := by decide +kernel
theorem dX0_voices_67 : decode cX0_voices 67 = .ok (.goto (-61), 3) := by decide +kernel
theorem dX0_voices_70 : decode cX0_voices 70 = .ok (.iload 4, 2) := by decide +kernel
theorem dX0_voices_72 : decode cX0_voices 72 = .ok (.ireturn, 1) := by decide +kernel
theorem dX0_lets_0 : decode cX0_lets 0 = .ok (.aload_n 0, 1) := by decide +kernel
theorem dX0_lets_1 : decode cX0_lets 1 = .ok (.getfield 9, 3) := by decide +kernel
theorem dX0_lets_4 : decode cX0_lets 4 = .ok (.getfield 15, 3) := by decide +kernel
theorem dX0_lets_7 : decode cX0_lets 7 = .ok (.iload_n 2, 1) := by decide +kernel
theorem dX0_lets_8 : decode cX0_lets 8 = .ok (.iaload, 1) := by decide +kernel
theorem dX0_lets_9 : decode cX0_lets 9 = .ok (.iconst 1, 1) := by decide +kernel
theorem dX0_lets_10 : decode cX0_lets 10 = .ok (.if_icmp .ne 24, 3) := by decide +kernel
theorem dX0_lets_13 : decode cX0_lets 13 = .ok (.aload_n 0, 1) := by decide +kernel
theorem dX0_lets_14 : decode cX0_lets 14 = .ok (.aload_n 1, 1) := by decide +kernel
theorem dX0_lets_15 : decode cX0_lets 15 = .ok (.aload_n 1, 1) := by decide +kernel
theorem dX0_lets_16 : decode cX0_lets 16 = .ok (.getfield 56, 3) := by decide +kernel
theorem dX0_lets_19 : decode cX0_lets 19 = .ok (.iload_n 2, 1) := by decide +kernel
theorem dX0_lets_20 : decode cX0_lets 20 = .ok (.iaload, 1) := by decide +kernel
theorem dX0_lets_21 : decode cX0_lets 21 = .ok (.iload_n 3, 1) := by decide +kernel
theorem dX0_lets_22 : decode cX0_lets 22 = .ok (.invokevirtual 59, 3) := by decide +kernel
theorem dX0_lets_25 : decode cX0_lets 25 = .ok (.ifCond .eq 7, 3) := by decide +kernel
theorem dX0_lets_28 : decode cX0_lets 28 = .ok (.iconst 1, 1) := by decide +kernel
theorem dX0_lets_29 : decode cX0_lets 29 = .ok (.goto 4, 3) := by decide +kernel
theorem dX0_lets_32 : decode cX0_lets 32 = .ok (.iconst 0, 1) := by decide +kernel
theorem dX0_lets_33 : decode cX0_lets 33 = .ok (.ireturn, 1) := by decide +kernel
theorem dX0_lets_34 : decode cX0_lets 34 = .ok (.aload_n 0, 1) := by decide +kernel
theorem dX0_lets_35 : decode cX0_lets 35 = .ok (.aload_n 1, 1) := by decide +kernel
theorem dX0_lets_36 : decode cX0_lets 36 = .ok (.iload_n 2, 1) := by decide +kernel
theorem dX0_lets_37 : decode cX0_lets 37 = .ok (.iload_n 3, 1) := by decide +kernel
theorem dX0_lets_38 : decode cX0_lets 38 = .ok (.iconst 0, 1) := by decide +kernel
theorem dX0_lets_39 : decode cX0_lets 39 = .ok (.invokevirtual 49, 3) := by decide +kernel
theorem dX0_lets_42 : decode cX0_lets 42 = .ok (.ireturn, 1) := by decide +kernel
theorem dX0_letThrough_0 : decode cX0_letThrough 0 = .ok (.iconst 0, 1) := by decide +kernel
theorem dX0_letThrough_1 : decode cX0_letThrough 1 = .ok (.istore_n 3, 1) := by decide +kernel
theorem dX0_letThrough_2 : decode cX0_letThrough 2 = .ok (.iconst 0, 1) := by decide +kernel
theorem dX0_letThrough_3 : decode cX0_letThrough 3 = .ok (.istore 4, 2) := by decide +kernel
theorem dX0_letThrough_5 : decode cX0_letThrough 5 = .ok (.iload 4, 2) := by decide +kernel
theorem dX0_letThrough_7 : decode cX0_letThrough 7 = .ok (.aload_n 0, 1) := by decide +kernel
theorem dX0_letThrough_8 : decode cX0_letThrough 8 = .ok (.getfield 9, 3) := by decide +kernel
theorem dX0_letThrough_11 : decode cX0_letThrough 11 = .ok (.getfield 53, 3) := by decide +kernel
theorem dX0_letThrough_14 : decode cX0_letThrough 14 = .ok (.if_icmp .ge 27, 3) := by decide +kernel
theorem dX0_letThrough_17 : decode cX0_letThrough 17 = .ok (.aload_n 0, 1) := by decide +kernel
theorem dX0_letThrough_18 : decode cX0_letThrough 18 = .ok (.aload_n 1, 1) := by decide +kernel
theorem dX0_letThrough_19 : decode cX0_letThrough 19 = .ok (.iload 4, 2) := by decide +kernel
theorem dX0_letThrough_21 : decode cX0_letThrough 21 = .ok (.iload_n 2, 1) := by decide +kernel
theorem dX0_letThrough_22 : decode cX0_letThrough 22 = .ok (.invokevirtual 63, 3) := by decide +kernel
theorem dX0_letThrough_25 : decode cX0_letThrough 25 = .ok (.ifCond .eq 10, 3) := by decide +kernel
theorem dX0_letThrough_28 : decode cX0_letThrough 28 = .ok (.iload_n 3, 1) := by decide +kernel
theorem dX0_letThrough_29 : decode cX0_letThrough 29 = .ok (.iconst 1, 1) := by decide +kernel
theorem dX0_letThrough_30 : decode cX0_letThrough 30 = .ok (.iload 4, 2) := by decide +kernel
theorem dX0_letThrough_32 : decode cX0_letThrough 32 = .ok (.ishl, 1) := by decide +kernel
theorem dX0_letThrough_33 : decode cX0_letThrough 33 = .ok (.ior, 1) := by decide +kernel
theorem dX0_letThrough_34 : decode cX0_letThrough 34 = .ok (.istore_n 3, 1) := by decide +kernel
theorem dX0_letThrough_35 : decode cX0_letThrough 35 = .ok (.iinc 4 1, 3) := by decide +kernel
theorem dX0_letThrough_38 : decode cX0_letThrough 38 = .ok (.goto (-33), 3) := by decide +kernel
theorem dX0_letThrough_41 : decode cX0_letThrough 41 = .ok (.iload_n 3, 1) := by decide +kernel
theorem dX0_letThrough_42 : decode cX0_letThrough 42 = .ok (.ireturn, 1) := by decide +kernel
theorem dX0_canGo_0 : decode cX0_canGo 0 = .ok (.aload_n 0, 1) := by decide +kernel
theorem dX0_canGo_1 : decode cX0_canGo 1 = .ok (.getfield 9, 3) := by decide +kernel
theorem dX0_canGo_4 : decode cX0_canGo 4 = .ok (.getfield 67, 3) := by decide +kernel
theorem dX0_canGo_7 : decode cX0_canGo 7 = .ok (.aload_n 1, 1) := by decide +kernel
theorem dX0_canGo_8 : decode cX0_canGo 8 = .ok (.getfield 56, 3) := by decide +kernel
theorem dX0_canGo_11 : decode cX0_canGo 11 = .ok (.iload_n 2, 1) := by decide +kernel
theorem dX0_canGo_12 : decode cX0_canGo 12 = .ok (.iaload, 1) := by decide +kernel
theorem dX0_canGo_13 : decode cX0_canGo 13 = .ok (.iaload, 1) := by decide +kernel
theorem dX0_canGo_14 : decode cX0_canGo 14 = .ok (.iload_n 3, 1) := by decide +kernel
theorem dX0_canGo_15 : decode cX0_canGo 15 = .ok (.invokestatic 70, 3) := by decide +kernel
theorem dX0_canGo_18 : decode cX0_canGo 18 = .ok (.ifCond .eq 17, 3) := by decide +kernel
theorem dX0_canGo_21 : decode cX0_canGo 21 = .ok (.aload_n 0, 1) := by decide +kernel
theorem dX0_canGo_22 : decode cX0_canGo 22 = .ok (.aload_n 1, 1) := by decide +kernel
theorem dX0_canGo_23 : decode cX0_canGo 23 = .ok (.iload_n 2, 1) := by decide +kernel
theorem dX0_canGo_24 : decode cX0_canGo 24 = .ok (.iload_n 3, 1) := by decide +kernel
theorem dX0_canGo_25 : decode cX0_canGo 25 = .ok (.invokevirtual 63, 3) := by decide +kernel
theorem dX0_canGo_28 : decode cX0_canGo 28 = .ok (.ifCond .eq 7, 3) := by decide +kernel
theorem dX0_canGo_31 : decode cX0_canGo 31 = .ok (.iconst 1, 1) := by decide +kernel
theorem dX0_canGo_32 : decode cX0_canGo 32 = .ok (.goto 4, 3) := by decide +kernel
theorem dX0_canGo_35 : decode cX0_canGo 35 = .ok (.iconst 0, 1) := by decide +kernel
theorem dX0_canGo_36 : decode cX0_canGo 36 = .ok (.ireturn, 1) := by decide +kernel
theorem dX0_canForge_0 : decode cX0_canForge 0 = .ok (.aload_n 0, 1) := by decide +kernel
theorem dX0_canForge_1 : decode cX0_canForge 1 = .ok (.getfield 9, 3) := by decide +kernel
theorem dX0_canForge_4 : decode cX0_canForge 4 = .ok (.getfield 15, 3) := by decide +kernel
theorem dX0_canForge_7 : decode cX0_canForge 7 = .ok (.iload_n 2, 1) := by decide +kernel
theorem dX0_canForge_8 : decode cX0_canForge 8 = .ok (.iaload, 1) := by decide +kernel
theorem dX0_canForge_9 : decode cX0_canForge 9 = .ok (.iconst 1, 1) := by decide +kernel
theorem dX0_canForge_10 : decode cX0_canForge 10 = .ok (.if_icmp .eq 43, 3) := by decide +kernel
theorem dX0_canForge_13 : decode cX0_canForge 13 = .ok (.iload_n 3, 1) := by decide +kernel
theorem dX0_canForge_14 : decode cX0_canForge 14 = .ok (.iconst 1, 1) := by decide +kernel
theorem dX0_canForge_15 : decode cX0_canForge 15 = .ok (.if_icmp .lt 38, 3) := by decide +kernel
theorem dX0_canForge_18 : decode cX0_canForge 18 = .ok (.iload_n 3, 1) := by decide +kernel
theorem dX0_canForge_19 : decode cX0_canForge 19 = .ok (.bipush 20, 2) := by decide +kernel
theorem dX0_canForge_21 : decode cX0_canForge 21 = .ok (.aload_n 1, 1) := by decide +kernel
theorem dX0_canForge_22 : decode cX0_canForge 22 = .ok (.getfield 24, 3) := by decide +kernel
theorem dX0_canForge_25 : decode cX0_canForge 25 = .ok (.iload_n 2, 1) := by decide +kernel
theorem dX0_canForge_26 : decode cX0_canForge 26 = .ok (.iaload, 1) := by decide +kernel
theorem dX0_canForge_27 : decode cX0_canForge 27 = .ok (.isub, 1) := by decide +kernel
theorem dX0_canForge_28 : decode cX0_canForge 28 = .ok (.if_icmp .gt 25, 3) := by decide +kernel
theorem dX0_canForge_31 : decode cX0_canForge 31 = .ok (.iload_n 3, 1) := by decide +kernel
theorem dX0_canForge_32 : decode cX0_canForge 32 = .ok (.aload_n 0, 1) := by decide +kernel
theorem dX0_canForge_33 : decode cX0_canForge 33 = .ok (.getfield 9, 3) := by decide +kernel
theorem dX0_canForge_36 : decode cX0_canForge 36 = .ok (.getfield 74, 3) := by decide +kernel
theorem dX0_canForge_39 : decode cX0_canForge 39 = .ok (.imul, 1) := by decide +kernel
theorem dX0_canForge_40 : decode cX0_canForge 40 = .ok (.aload_n 1, 1) := by decide +kernel
theorem dX0_canForge_41 : decode cX0_canForge 41 = .ok (.getfield 77, 3) := by decide +kernel
theorem dX0_canForge_44 : decode cX0_canForge 44 = .ok (.iload_n 2, 1) := by decide +kernel
theorem dX0_canForge_45 : decode cX0_canForge 45 = .ok (.iaload, 1) := by decide +kernel
theorem dX0_canForge_46 : decode cX0_canForge 46 = .ok (.if_icmp .gt 7, 3) := by decide +kernel
theorem dX0_canForge_49 : decode cX0_canForge 49 = .ok (.iconst 1, 1) := by decide +kernel
theorem dX0_canForge_50 : decode cX0_canForge 50 = .ok (.goto 4, 3) := by decide +kernel
theorem dX0_canForge_53 : decode cX0_canForge 53 = .ok (.iconst 0, 1) := by decide +kernel
theorem dX0_canForge_54 : decode cX0_canForge 54 = .ok (.ireturn, 1) := by decide +kernel
theorem dX0_sell_0 : decode cX0_sell 0 = .ok (.aload_n 1, 1) := by decide +kernel
theorem dX0_sell_1 : decode cX0_sell 1 = .ok (.getfield 24, 3) := by decide +kernel
theorem dX0_sell_4 : decode cX0_sell 4 = .ok (.iload_n 2, 1) := by decide +kernel
theorem dX0_sell_5 : decode cX0_sell 5 = .ok (.dup2, 1) := by decide +kernel
theorem dX0_sell_6 : decode cX0_sell 6 = .ok (.iaload, 1) := by decide +kernel
theorem dX0_sell_7 : decode cX0_sell 7 = .ok (.iload_n 3, 1) := by decide +kernel
theorem dX0_sell_8 : decode cX0_sell 8 = .ok (.iadd, 1) := by decide +kernel
theorem dX0_sell_9 : decode cX0_sell 9 = .ok (.iastore, 1) := by decide +kernel
theorem dX0_sell_10 : decode cX0_sell 10 = .ok (.aload_n 1, 1) := by decide +kernel
theorem dX0_sell_11 : decode cX0_sell 11 = .ok (.getfield 77, 3) := by decide +kernel
theorem dX0_sell_14 : decode cX0_sell 14 = .ok (.iload_n 2, 1) := by decide +kernel
theorem dX0_sell_15 : decode cX0_sell 15 = .ok (.dup2, 1) := by decide +kernel
theorem dX0_sell_16 : decode cX0_sell 16 = .ok (.iaload, 1) := by decide +kernel
theorem dX0_sell_17 : decode cX0_sell 17 = .ok (.iload_n 3, 1) := by decide +kernel
theorem dX0_sell_18 : decode cX0_sell 18 = .ok (.aload_n 0, 1) := by decide +kernel
theorem dX0_sell_19 : decode cX0_sell 19 = .ok (.getfield 9, 3) := by decide +kernel
theorem dX0_sell_22 : decode cX0_sell 22 = .ok (.getfield 74, 3) := by decide +kernel
theorem dX0_sell_25 : decode cX0_sell 25 = .ok (.imul, 1) := by decide +kernel
theorem dX0_sell_26 : decode cX0_sell 26 = .ok (.isub, 1) := by decide +kernel
theorem dX0_sell_27 : decode cX0_sell 27 = .ok (.iastore, 1) := by decide +kernel
theorem dX0_sell_28 : decode cX0_sell 28 = .ok (.return_, 1) := by decide +kernel
theorem dX0_passWeek_0 : decode cX0_passWeek 0 = .ok (.aload_n 1, 1) := by decide +kernel
theorem dX0_passWeek_1 : decode cX0_passWeek 1 = .ok (.dup, 1) := by decide +kernel
theorem dX0_passWeek_2 : decode cX0_passWeek 2 = .ok (.getfield 36, 3) := by decide +kernel
theorem dX0_passWeek_5 : decode cX0_passWeek 5 = .ok (.iconst 1, 1) := by decide +kernel
theorem dX0_passWeek_6 : decode cX0_passWeek 6 = .ok (.iadd, 1) := by decide +kernel
theorem dX0_passWeek_7 : decode cX0_passWeek 7 = .ok (.putfield 36, 3) := by decide +kernel
theorem dX0_passWeek_10 : decode cX0_passWeek 10 = .ok (.iconst 0, 1) := by decide +kernel
theorem dX0_passWeek_11 : decode cX0_passWeek 11 = .ok (.istore_n 2, 1) := by decide +kernel
theorem dX0_passWeek_12 : decode cX0_passWeek 12 = .ok (.iload_n 2, 1) := by decide +kernel
theorem dX0_passWeek_13 : decode cX0_passWeek 13 = .ok (.aload_n 0, 1) := by decide +kernel
theorem dX0_passWeek_14 : decode cX0_passWeek 14 = .ok (.getfield 9, 3) := by decide +kernel
theorem dX0_passWeek_17 : decode cX0_passWeek 17 = .ok (.getfield 53, 3) := by decide +kernel
theorem dX0_passWeek_20 : decode cX0_passWeek 20 = .ok (.if_icmp .ge 49, 3) := by decide +kernel
theorem dX0_passWeek_23 : decode cX0_passWeek 23 = .ok (.aload_n 0, 1) := by decide +kernel
theorem dX0_passWeek_24 : decode cX0_passWeek 24 = .ok (.getfield 9, 3) := by decide +kernel
theorem dX0_passWeek_27 : decode cX0_passWeek 27 = .ok (.getfield 15, 3) := by decide +kernel
theorem dX0_passWeek_30 : decode cX0_passWeek 30 = .ok (.iload_n 2, 1) := by decide +kernel
theorem dX0_passWeek_31 : decode cX0_passWeek 31 = .ok (.iaload, 1) := by decide +kernel
theorem dX0_passWeek_32 : decode cX0_passWeek 32 = .ok (.iconst 1, 1) := by decide +kernel
theorem dX0_passWeek_33 : decode cX0_passWeek 33 = .ok (.if_icmp .eq 30, 3) := by decide +kernel
theorem dX0_passWeek_36 : decode cX0_passWeek 36 = .ok (.aload_n 1, 1) := by decide +kernel
theorem dX0_passWeek_37 : decode cX0_passWeek 37 = .ok (.getfield 33, 3) := by decide +kernel
theorem dX0_passWeek_40 : decode cX0_passWeek 40 = .ok (.iload_n 2, 1) := by decide +kernel
theorem dX0_passWeek_41 : decode cX0_passWeek 41 = .ok (.iaload, 1) := by decide +kernel
theorem dX0_passWeek_42 : decode cX0_passWeek 42 = .ok (.aload_n 0, 1) := by decide +kernel
theorem dX0_passWeek_43 : decode cX0_passWeek 43 = .ok (.getfield 9, 3) := by decide +kernel
theorem dX0_passWeek_46 : decode cX0_passWeek 46 = .ok (.getfield 80, 3) := by decide +kernel
theorem dX0_passWeek_49 : decode cX0_passWeek 49 = .ok (.iadd, 1) := by decide +kernel
theorem dX0_passWeek_50 : decode cX0_passWeek 50 = .ok (.istore_n 3, 1) := by decide +kernel
theorem dX0_passWeek_51 : decode cX0_passWeek 51 = .ok (.aload_n 1, 1) := by decide +kernel
theorem dX0_passWeek_52 : decode cX0_passWeek 52 = .ok (.getfield 33, 3) := by decide +kernel
theorem dX0_passWeek_55 : decode cX0_passWeek 55 = .ok (.iload_n 2, 1) := by decide +kernel
theorem dX0_passWeek_56 : decode cX0_passWeek 56 = .ok (.iload_n 3, 1) := by decide +kernel
theorem dX0_passWeek_57 : decode cX0_passWeek 57 = .ok (.bipush 60, 2) := by decide +kernel
theorem dX0_passWeek_59 : decode cX0_passWeek 59 = .ok (.invokestatic 83, 3) := by decide +kernel
theorem dX0_passWeek_62 : decode cX0_passWeek 62 = .ok (.iastore, 1) := by decide +kernel
theorem dX0_passWeek_63 : decode cX0_passWeek 63 = .ok (.iinc 2 1, 3) := by decide +kernel
theorem dX0_passWeek_66 : decode cX0_passWeek 66 = .ok (.goto (-54), 3) := by decide +kernel
theorem dX0_passWeek_69 : decode cX0_passWeek 69 = .ok (.return_, 1) := by decide +kernel
theorem dX1_copy_0 : decode cX1_copy 0 = .ok (.aload_n 0, 1) := by decide +kernel
theorem dX1_copy_1 : decode cX1_copy 1 = .ok (.aload_n 1, 1) := by decide +kernel
theorem dX1_copy_2 : decode cX1_copy 2 = .ok (.getfield 21, 3) := by decide +kernel
theorem dX1_copy_5 : decode cX1_copy 5 = .ok (.putfield 21, 3) := by decide +kernel
theorem dX1_copy_8 : decode cX1_copy 8 = .ok (.aload_n 1, 1) := by decide +kernel
theorem dX1_copy_9 : decode cX1_copy 9 = .ok (.getfield 9, 3) := by decide +kernel
theorem dX1_copy_12 : decode cX1_copy 12 = .ok (.iconst 0, 1) := by decide +kernel
theorem dX1_copy_13 : decode cX1_copy 13 = .ok (.aload_n 0, 1) := by decide +kernel
theorem dX1_copy_14 : decode cX1_copy 14 = .ok (.getfield 9, 3) := by decide +kernel
theorem dX1_copy_17 : decode cX1_copy 17 = .ok (.iconst 0, 1) := by decide +kernel
theorem dX1_copy_18 : decode cX1_copy 18 = .ok (.aload_n 0, 1) := by decide +kernel
theorem dX1_copy_19 : decode cX1_copy 19 = .ok (.getfield 21, 3) := by decide +kernel
theorem dX1_copy_22 : decode cX1_copy 22 = .ok (.invokestatic 25, 3) := by decide +kernel
theorem dX1_copy_25 : decode cX1_copy 25 = .ok (.aload_n 1, 1) := by decide +kernel
theorem dX1_copy_26 : decode cX1_copy 26 = .ok (.getfield 15, 3) := by decide +kernel
theorem dX1_copy_29 : decode cX1_copy 29 = .ok (.iconst 0, 1) := by decide +kernel
theorem dX1_copy_30 : decode cX1_copy 30 = .ok (.aload_n 0, 1) := by decide +kernel
theorem dX1_copy_31 : decode cX1_copy 31 = .ok (.getfield 15, 3) := by decide +kernel
theorem dX1_copy_34 : decode cX1_copy 34 = .ok (.iconst 0, 1) := by decide +kernel
theorem dX1_copy_35 : decode cX1_copy 35 = .ok (.aload_n 0, 1) := by decide +kernel
theorem dX1_copy_36 : decode cX1_copy 36 = .ok (.getfield 21, 3) := by decide +kernel
theorem dX1_copy_39 : decode cX1_copy 39 = .ok (.invokestatic 25, 3) := by decide +kernel
theorem dX1_copy_42 : decode cX1_copy 42 = .ok (.aload_n 1, 1) := by decide +kernel
theorem dX1_copy_43 : decode cX1_copy 43 = .ok (.getfield 18, 3) := by decide +kernel
theorem dX1_copy_46 : decode cX1_copy 46 = .ok (.iconst 0, 1) := by decide +kernel
theorem dX1_copy_47 : decode cX1_copy 47 = .ok (.aload_n 0, 1) := by decide +kernel
theorem dX1_copy_48 : decode cX1_copy 48 = .ok (.getfield 18, 3) := by decide +kernel
theorem dX1_copy_51 : decode cX1_copy 51 = .ok (.iconst 0, 1) := by decide +kernel
theorem dX1_copy_52 : decode cX1_copy 52 = .ok (.aload_n 0, 1) := by decide +kernel
theorem dX1_copy_53 : decode cX1_copy 53 = .ok (.getfield 21, 3) := by decide +kernel
theorem dX1_copy_56 : decode cX1_copy 56 = .ok (.invokestatic 25, 3) := by decide +kernel
theorem dX1_copy_59 : decode cX1_copy 59 = .ok (.return_, 1) := by decide +kernel
theorem dX1_read_0 : decode cX1_read 0 = .ok (.aload_n 0, 1) := by decide +kernel
theorem dX1_read_1 : decode cX1_read 1 = .ok (.iconst 0, 1) := by decide +kernel
theorem dX1_read_2 : decode cX1_read 2 = .ok (.putfield 21, 3) := by decide +kernel
theorem dX1_read_5 : decode cX1_read 5 = .ok (.aload_n 1, 1) := by decide +kernel
theorem dX1_read_6 : decode cX1_read 6 = .ok (.invokevirtual 31, 3) := by decide +kernel
theorem dX1_read_9 : decode cX1_read 9 = .ok (.iconst 0, 1) := by decide +kernel
theorem dX1_read_10 : decode cX1_read 10 = .ok (.istore_n 3, 1) := by decide +kernel
theorem dX1_read_11 : decode cX1_read 11 = .ok (.iload_n 3, 1) := by decide +kernel
theorem dX1_read_12 : decode cX1_read 12 = .ok (.sipush 1000, 3) := by decide +kernel
theorem dX1_read_15 : decode cX1_read 15 = .ok (.if_icmp .ge 40, 3) := by decide +kernel
theorem dX1_read_18 : decode cX1_read 18 = .ok (.aload_n 1, 1) := by decide +kernel
theorem dX1_read_19 : decode cX1_read 19 = .ok (.getfield 36, 3) := by decide +kernel
theorem dX1_read_22 : decode cX1_read 22 = .ok (.getstatic 40, 3) := by decide +kernel
theorem dX1_read_25 : decode cX1_read 25 = .ok (.if_acmp .eq 30, 3) := by decide +kernel
theorem dX1_read_28 : decode cX1_read 28 = .ok (.aload_n 0, 1) := by decide +kernel
theorem dX1_read_29 : decode cX1_read 29 = .ok (.aload_n 1, 1) := by decide +kernel
theorem dX1_read_30 : decode cX1_read 30 = .ok (.aload_n 2, 1) := by decide +kernel
theorem dX1_read_31 : decode cX1_read 31 = .ok (.invokevirtual 45, 3) := by decide +kernel
theorem dX1_read_34 : decode cX1_read 34 = .ok (.ifCond .eq 13, 3) := by decide +kernel
theorem dX1_read_37 : decode cX1_read 37 = .ok (.aload_n 1, 1) := by decide +kernel
theorem dX1_read_38 : decode cX1_read 38 = .ok (.getstatic 49, 3) := by decide +kernel
theorem dX1_read_41 : decode cX1_read 41 = .ok (.invokevirtual 52, 3) := by decide +kernel
theorem dX1_read_44 : decode cX1_read 44 = .ok (.ifCond .ne 5, 3) := by decide +kernel
theorem dX1_read_47 : decode cX1_read 47 = .ok (.iconst 0, 1) := by decide +kernel
theorem dX1_read_48 : decode cX1_read 48 = .ok (.ireturn, 1) := by decide +kernel
theorem dX1_read_49 : decode cX1_read 49 = .ok (.iinc 3 1, 3) := by decide +kernel
theorem dX1_read_52 : decode cX1_read 52 = .ok (.goto (-41), 3) := by decide +kernel
theorem dX1_read_55 : decode cX1_read 55 = .ok (.iconst 1, 1) := by decide +kernel
theorem dX1_read_56 : decode cX1_read 56 = .ok (.ireturn, 1) := by decide +kernel
theorem dX1_readLine_0 : decode cX1_readLine 0 = .ok (.aload_n 1, 1) := by decide +kernel
theorem dX1_readLine_1 : decode cX1_readLine 1 = .ok (.invokestatic 56, 3) := by decide +kernel
theorem dX1_readLine_4 : decode cX1_readLine 4 = .ok (.istore_n 3, 1) := by decide +kernel
theorem dX1_readLine_5 : decode cX1_readLine 5 = .ok (.iload_n 3, 1) := by decide +kernel
theorem dX1_readLine_6 : decode cX1_readLine 6 = .ok (.iconst (-1), 1) := by decide +kernel
theorem dX1_readLine_7 : decode cX1_readLine 7 = .ok (.if_icmp .ne 9, 3) := by decide +kernel
theorem dX1_readLine_10 : decode cX1_readLine 10 = .ok (.aload_n 1, 1) := by decide +kernel
theorem dX1_readLine_11 : decode cX1_readLine 11 = .ok (.iconst 1, 1) := by decide +kernel
theorem dX1_readLine_12 : decode cX1_readLine 12 = .ok (.invokevirtual 60, 3) := by decide +kernel
theorem dX1_readLine_15 : decode cX1_readLine 15 = .ok (.ireturn, 1) := by decide +kernel
theorem dX1_readLine_16 : decode cX1_readLine 16 = .ok (.aload_n 0, 1) := by decide +kernel
theorem dX1_readLine_17 : decode cX1_readLine 17 = .ok (.getfield 21, 3) := by decide +kernel
theorem dX1_readLine_20 : decode cX1_readLine 20 = .ok (.bipush 40, 2) := by decide +kernel
theorem dX1_readLine_22 : decode cX1_readLine 22 = .ok (.if_icmp .lt 9, 3) := by decide +kernel
theorem dX1_readLine_25 : decode cX1_readLine 25 = .ok (.aload_n 1, 1) := by decide +kernel
theorem dX1_readLine_26 : decode cX1_readLine 26 = .ok (.iconst 5, 1) := by decide +kernel
theorem dX1_readLine_27 : decode cX1_readLine 27 = .ok (.invokevirtual 60, 3) := by decide +kernel
theorem dX1_readLine_30 : decode cX1_readLine 30 = .ok (.ireturn, 1) := by decide +kernel
theorem dX1_readLine_31 : decode cX1_readLine 31 = .ok (.aload_n 0, 1) := by decide +kernel
theorem dX1_readLine_32 : decode cX1_readLine 32 = .ok (.getfield 21, 3) := by decide +kernel
theorem dX1_readLine_35 : decode cX1_readLine 35 = .ok (.istore 4, 2) := by decide +kernel
theorem dX1_readLine_37 : decode cX1_readLine 37 = .ok (.aload_n 0, 1) := by decide +kernel
theorem dX1_readLine_38 : decode cX1_readLine 38 = .ok (.dup, 1) := by decide +kernel
theorem dX1_readLine_39 : decode cX1_readLine 39 = .ok (.getfield 21, 3) := by decide +kernel
theorem dX1_readLine_42 : decode cX1_readLine 42 = .ok (.iconst 1, 1) := by decide +kernel
theorem dX1_readLine_43 : decode cX1_readLine 43 = .ok (.iadd, 1) := by decide +kernel
theorem dX1_readLine_44 : decode cX1_readLine 44 = .ok (.putfield 21, 3) := by decide +kernel
theorem dX1_readLine_47 : decode cX1_readLine 47 = .ok (.aload_n 0, 1) := by decide +kernel
theorem dX1_readLine_48 : decode cX1_readLine 48 = .ok (.getfield 9, 3) := by decide +kernel
theorem dX1_readLine_51 : decode cX1_readLine 51 = .ok (.iload 4, 2) := by decide +kernel
theorem dX1_readLine_53 : decode cX1_readLine 53 = .ok (.iload_n 3, 1) := by decide +kernel
theorem dX1_readLine_54 : decode cX1_readLine 54 = .ok (.iastore, 1) := by decide +kernel
theorem dX1_readLine_55 : decode cX1_readLine 55 = .ok (.aload_n 0, 1) := by decide +kernel
theorem dX1_readLine_56 : decode cX1_readLine 56 = .ok (.getfield 15, 3) := by decide +kernel
theorem dX1_readLine_59 : decode cX1_readLine 59 = .ok (.iload 4, 2) := by decide +kernel
theorem dX1_readLine_61 : decode cX1_readLine 61 = .ok (.iconst 0, 1) := by decide +kernel
theorem dX1_readLine_62 : decode cX1_readLine 62 = .ok (.iastore, 1) := by decide +kernel
theorem dX1_readLine_63 : decode cX1_readLine 63 = .ok (.aload_n 0, 1) := by decide +kernel
theorem dX1_readLine_64 : decode cX1_readLine 64 = .ok (.getfield 18, 3) := by decide +kernel
theorem dX1_readLine_67 : decode cX1_readLine 67 = .ok (.iload 4, 2) := by decide +kernel
theorem dX1_readLine_69 : decode cX1_readLine 69 = .ok (.iconst 0, 1) := by decide +kernel
theorem dX1_readLine_70 : decode cX1_readLine 70 = .ok (.iastore, 1) := by decide +kernel
theorem dX1_readLine_71 : decode cX1_readLine 71 = .ok (.aload_n 1, 1) := by decide +kernel
theorem dX1_readLine_72 : decode cX1_readLine 72 = .ok (.invokevirtual 64, 3) := by decide +kernel
theorem dX1_readLine_75 : decode cX1_readLine 75 = .ok (.iload_n 3, 1) := by decide +kernel
theorem dX1_readLine_76 : decode cX1_readLine 76 = .ok (.iconst 3, 1) := by decide +kernel
theorem dX1_readLine_77 : decode cX1_readLine 77 = .ok (.if_icmp .eq 14, 3) := by decide +kernel
theorem dX1_readLine_80 : decode cX1_readLine 80 = .ok (.aload_n 0, 1) := by decide +kernel
theorem dX1_readLine_81 : decode cX1_readLine 81 = .ok (.aload_n 1, 1) := by decide +kernel
theorem dX1_readLine_82 : decode cX1_readLine 82 = .ok (.aload_n 2, 1) := by decide +kernel
theorem dX1_readLine_83 : decode cX1_readLine 83 = .ok (.iload 4, 2) := by decide +kernel
theorem dX1_readLine_85 : decode cX1_readLine 85 = .ok (.invokevirtual 67, 3) := by decide +kernel
theorem dX1_readLine_88 : decode cX1_readLine 88 = .ok (.ifCond .eq 7, 3) := by decide +kernel
theorem dX1_readLine_91 : decode cX1_readLine 91 = .ok (.iconst 1, 1) := by decide +kernel
theorem dX1_readLine_92 : decode cX1_readLine 92 = .ok (.goto 4, 3) := by decide +kernel
theorem dX1_readLine_95 : decode cX1_readLine 95 = .ok (.iconst 0, 1) := by decide +kernel
theorem dX1_readLine_96 : decode cX1_readLine 96 = .ok (.ireturn, 1) := by decide +kernel
theorem dX1_readDoer_0 : decode cX1_readDoer 0 = .ok (.aload_n 0, 1) := by decide +kernel
theorem dX1_readDoer_1 : decode cX1_readDoer 1 = .ok (.getfield 15, 3) := by decide +kernel
theorem dX1_readDoer_4 : decode cX1_readDoer 4 = .ok (.iload_n 3, 1) := by decide +kernel
theorem dX1_readDoer_5 : decode cX1_readDoer 5 = .ok (.aload_n 1, 1) := by decide +kernel
theorem dX1_readDoer_6 : decode cX1_readDoer 6 = .ok (.aload_n 2, 1) := by decide +kernel
theorem dX1_readDoer_7 : decode cX1_readDoer 7 = .ok (.invokevirtual 71, 3) := by decide +kernel
theorem dX1_readDoer_10 : decode cX1_readDoer 10 = .ok (.iastore, 1) := by decide +kernel
theorem dX1_readDoer_11 : decode cX1_readDoer 11 = .ok (.aload_n 0, 1) := by decide +kernel
theorem dX1_readDoer_12 : decode cX1_readDoer 12 = .ok (.getfield 15, 3) := by decide +kernel
theorem dX1_readDoer_15 : decode cX1_readDoer 15 = .ok (.iload_n 3, 1) := by decide +kernel
theorem dX1_readDoer_16 : decode cX1_readDoer 16 = .ok (.iaload, 1) := by decide +kernel
theorem dX1_readDoer_17 : decode cX1_readDoer 17 = .ok (.iconst (-1), 1) := by decide +kernel
theorem dX1_readDoer_18 : decode cX1_readDoer 18 = .ok (.if_icmp .ne 5, 3) := by decide +kernel
theorem dX1_readDoer_21 : decode cX1_readDoer 21 = .ok (.iconst 0, 1) := by decide +kernel
theorem dX1_readDoer_22 : decode cX1_readDoer 22 = .ok (.ireturn, 1) := by decide +kernel
theorem dX1_readDoer_23 : decode cX1_readDoer 23 = .ok (.aload_n 1, 1) := by decide +kernel
theorem dX1_readDoer_24 : decode cX1_readDoer 24 = .ok (.invokevirtual 64, 3) := by decide +kernel
theorem dX1_readDoer_27 : decode cX1_readDoer 27 = .ok (.aload_n 0, 1) := by decide +kernel
theorem dX1_readDoer_28 : decode cX1_readDoer 28 = .ok (.getfield 9, 3) := by decide +kernel
theorem dX1_readDoer_31 : decode cX1_readDoer 31 = .ok (.iload_n 3, 1) := by decide +kernel
theorem dX1_readDoer_32 : decode cX1_readDoer 32 = .ok (.iaload, 1) := by decide +kernel
theorem dX1_readDoer_33 : decode cX1_readDoer 33 = .ok (.iconst 1, 1) := by decide +kernel
theorem dX1_readDoer_34 : decode cX1_readDoer 34 = .ok (.if_icmp .ne 19, 3) := by decide +kernel
theorem dX1_readDoer_37 : decode cX1_readDoer 37 = .ok (.aload_n 0, 1) := by decide +kernel
theorem dX1_readDoer_38 : decode cX1_readDoer 38 = .ok (.getfield 18, 3) := by decide +kernel
theorem dX1_readDoer_41 : decode cX1_readDoer 41 = .ok (.iload_n 3, 1) := by decide +kernel
theorem dX1_readDoer_42 : decode cX1_readDoer 42 = .ok (.aload_n 1, 1) := by decide +kernel
theorem dX1_readDoer_43 : decode cX1_readDoer 43 = .ok (.iconst 1, 1) := by decide +kernel
theorem dX1_readDoer_44 : decode cX1_readDoer 44 = .ok (.bipush 20, 2) := by decide +kernel
theorem dX1_readDoer_46 : decode cX1_readDoer 46 = .ok (.invokevirtual 75, 3) := by decide +kernel
theorem dX1_readDoer_49 : decode cX1_readDoer 49 = .ok (.iastore, 1) := by decide +kernel
theorem dX1_readDoer_50 : decode cX1_readDoer 50 = .ok (.goto 37, 3) := by decide +kernel
theorem dX1_readDoer_53 : decode cX1_readDoer 53 = .ok (.aload_n 0, 1) := by decide +kernel
theorem dX1_readDoer_54 : decode cX1_readDoer 54 = .ok (.getfield 9, 3) := by decide +kernel
theorem dX1_readDoer_57 : decode cX1_readDoer 57 = .ok (.iload_n 3, 1) := by decide +kernel
theorem dX1_readDoer_58 : decode cX1_readDoer 58 = .ok (.iaload, 1) := by decide +kernel
theorem dX1_readDoer_59 : decode cX1_readDoer 59 = .ok (.ifCond .ne 28, 3) := by decide +kernel
theorem dX1_readDoer_62 : decode cX1_readDoer 62 = .ok (.aload_n 0, 1) := by decide +kernel
theorem dX1_readDoer_63 : decode cX1_readDoer 63 = .ok (.getfield 18, 3) := by decide +kernel
theorem dX1_readDoer_66 : decode cX1_readDoer 66 = .ok (.iload_n 3, 1) := by decide +kernel
theorem dX1_readDoer_67 : decode cX1_readDoer 67 = .ok (.aload_n 1, 1) := by decide +kernel
theorem dX1_readDoer_68 : decode cX1_readDoer 68 = .ok (.aload_n 2, 1) := by decide +kernel
theorem dX1_readDoer_69 : decode cX1_readDoer 69 = .ok (.invokevirtual 79, 3) := by decide +kernel
theorem dX1_readDoer_72 : decode cX1_readDoer 72 = .ok (.iastore, 1) := by decide +kernel
theorem dX1_readDoer_73 : decode cX1_readDoer 73 = .ok (.aload_n 0, 1) := by decide +kernel
theorem dX1_readDoer_74 : decode cX1_readDoer 74 = .ok (.getfield 18, 3) := by decide +kernel
theorem dX1_readDoer_77 : decode cX1_readDoer 77 = .ok (.iload_n 3, 1) := by decide +kernel
theorem dX1_readDoer_78 : decode cX1_readDoer 78 = .ok (.iaload, 1) := by decide +kernel
theorem dX1_readDoer_79 : decode cX1_readDoer 79 = .ok (.iconst (-1), 1) := by decide +kernel
theorem dX1_readDoer_80 : decode cX1_readDoer 80 = .ok (.if_icmp .eq 7, 3) := by decide +kernel
theorem dX1_readDoer_83 : decode cX1_readDoer 83 = .ok (.aload_n 1, 1) := by decide +kernel
theorem dX1_readDoer_84 : decode cX1_readDoer 84 = .ok (.invokevirtual 64, 3) := by decide +kernel
theorem dX1_readDoer_87 : decode cX1_readDoer 87 = .ok (.aload_n 0, 1) := by decide +kernel
theorem dX1_readDoer_88 : decode cX1_readDoer 88 = .ok (.getfield 18, 3) := by decide +kernel
theorem dX1_readDoer_91 : decode cX1_readDoer 91 = .ok (.iload_n 3, 1) := by decide +kernel
theorem dX1_readDoer_92 : decode cX1_readDoer 92 = .ok (.iaload, 1) := by decide +kernel
