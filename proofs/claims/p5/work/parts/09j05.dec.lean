theorem dX9_personHere_12 : decode cX9_personHere 12 = .ok (.getfield 37, 3) := by decide +kernel
theorem dX9_personHere_15 : decode cX9_personHere 15 = .ok (.invokevirtual 106, 3) := by decide +kernel
theorem dX9_personHere_18 : decode cX9_personHere 18 = .ok (.goto 4, 3) := by decide +kernel
theorem dX9_personHere_21 : decode cX9_personHere 21 = .ok (.iconst (-1), 1) := by decide +kernel
theorem dX9_personHere_22 : decode cX9_personHere 22 = .ok (.istore_n 2, 1) := by decide +kernel
theorem dX9_personHere_23 : decode cX9_personHere 23 = .ok (.iload_n 2, 1) := by decide +kernel
theorem dX9_personHere_24 : decode cX9_personHere 24 = .ok (.iconst (-1), 1) := by decide +kernel
theorem dX9_personHere_25 : decode cX9_personHere 25 = .ok (.if_icmp .ne 23, 3) := by decide +kernel
theorem dX9_personHere_28 : decode cX9_personHere 28 = .ok (.aload_n 0, 1) := by decide +kernel
theorem dX9_personHere_29 : decode cX9_personHere 29 = .ok (.aload_n 0, 1) := by decide +kernel
theorem dX9_personHere_30 : decode cX9_personHere 30 = .ok (.getfield 31, 3) := by decide +kernel
theorem dX9_personHere_33 : decode cX9_personHere 33 = .ok (.getstatic 59, 3) := by decide +kernel
theorem dX9_personHere_36 : decode cX9_personHere 36 = .ok (.if_acmp .ne 7, 3) := by decide +kernel
theorem dX9_personHere_39 : decode cX9_personHere 39 = .ok (.iconst 2, 1) := by decide +kernel
theorem dX9_personHere_40 : decode cX9_personHere 40 = .ok (.goto 4, 3) := by decide +kernel
theorem dX9_personHere_43 : decode cX9_personHere 43 = .ok (.iconst 1, 1) := by decide +kernel
theorem dX9_personHere_44 : decode cX9_personHere 44 = .ok (.invokevirtual 96, 3) := by decide +kernel
theorem dX9_personHere_47 : decode cX9_personHere 47 = .ok (.pop, 1) := by decide +kernel
theorem dX9_personHere_48 : decode cX9_personHere 48 = .ok (.iload_n 2, 1) := by decide +kernel
theorem dX9_personHere_49 : decode cX9_personHere 49 = .ok (.ireturn, 1) := by decide +kernel
theorem dX10_lay_0 : decode cX10_lay 0 = .ok (.aload_n 0, 1) := by decide +kernel
theorem dX10_lay_1 : decode cX10_lay 1 = .ok (.getfield 22, 3) := by decide +kernel
theorem dX10_lay_4 : decode cX10_lay 4 = .ok (.iconst 0, 1) := by decide +kernel
theorem dX10_lay_5 : decode cX10_lay 5 = .ok (.invokestatic 39, 3) := by decide +kernel
theorem dX10_lay_8 : decode cX10_lay 8 = .ok (.aload_n 0, 1) := by decide +kernel
theorem dX10_lay_9 : decode cX10_lay 9 = .ok (.getfield 31, 3) := by decide +kernel
theorem dX10_lay_12 : decode cX10_lay 12 = .ok (.getfield 45, 3) := by decide +kernel
theorem dX10_lay_15 : decode cX10_lay 15 = .ok (.iload_n 2, 1) := by decide +kernel
theorem dX10_lay_16 : decode cX10_lay 16 = .ok (.iaload, 1) := by decide +kernel
theorem dX10_lay_17 : decode cX10_lay 17 = .ok (.iconst 1, 1) := by decide +kernel
theorem dX10_lay_18 : decode cX10_lay 18 = .ok (.if_icmp .eq 57, 3) := by decide +kernel
theorem dX10_lay_21 : decode cX10_lay 21 = .ok (.aload_n 0, 1) := by decide +kernel
theorem dX10_lay_22 : decode cX10_lay 22 = .ok (.getfield 35, 3) := by decide +kernel
theorem dX10_lay_25 : decode cX10_lay 25 = .ok (.aload_n 1, 1) := by decide +kernel
theorem dX10_lay_26 : decode cX10_lay 26 = .ok (.iload_n 2, 1) := by decide +kernel
theorem dX10_lay_27 : decode cX10_lay 27 = .ok (.iload_n 3, 1) := by decide +kernel
theorem dX10_lay_28 : decode cX10_lay 28 = .ok (.invokevirtual 50, 3) := by decide +kernel
theorem dX10_lay_31 : decode cX10_lay 31 = .ok (.istore 4, 2) := by decide +kernel
theorem dX10_lay_33 : decode cX10_lay 33 = .ok (.iconst 0, 1) := by decide +kernel
theorem dX10_lay_34 : decode cX10_lay 34 = .ok (.istore 5, 2) := by decide +kernel
theorem dX10_lay_36 : decode cX10_lay 36 = .ok (.iload 5, 2) := by decide +kernel
theorem dX10_lay_38 : decode cX10_lay 38 = .ok (.aload_n 0, 1) := by decide +kernel
theorem dX10_lay_39 : decode cX10_lay 39 = .ok (.getfield 31, 3) := by decide +kernel
theorem dX10_lay_42 : decode cX10_lay 42 = .ok (.getfield 56, 3) := by decide +kernel
theorem dX10_lay_45 : decode cX10_lay 45 = .ok (.if_icmp .ge 29, 3) := by decide +kernel
theorem dX10_lay_48 : decode cX10_lay 48 = .ok (.aload_n 0, 1) := by decide +kernel
theorem dX10_lay_49 : decode cX10_lay 49 = .ok (.getfield 22, 3) := by decide +kernel
theorem dX10_lay_52 : decode cX10_lay 52 = .ok (.iload 5, 2) := by decide +kernel
theorem dX10_lay_54 : decode cX10_lay 54 = .ok (.aload_n 0, 1) := by decide +kernel
theorem dX10_lay_55 : decode cX10_lay 55 = .ok (.getfield 31, 3) := by decide +kernel
theorem dX10_lay_58 : decode cX10_lay 58 = .ok (.getfield 60, 3) := by decide +kernel
theorem dX10_lay_61 : decode cX10_lay 61 = .ok (.iload 5, 2) := by decide +kernel
theorem dX10_lay_63 : decode cX10_lay 63 = .ok (.iaload, 1) := by decide +kernel
theorem dX10_lay_64 : decode cX10_lay 64 = .ok (.iload 4, 2) := by decide +kernel
theorem dX10_lay_66 : decode cX10_lay 66 = .ok (.iand, 1) := by decide +kernel
theorem dX10_lay_67 : decode cX10_lay 67 = .ok (.iastore, 1) := by decide +kernel
theorem dX10_lay_68 : decode cX10_lay 68 = .ok (.iinc 5 1, 3) := by decide +kernel
theorem dX10_lay_71 : decode cX10_lay 71 = .ok (.goto (-35), 3) := by decide +kernel
theorem dX10_lay_74 : decode cX10_lay 74 = .ok (.return_, 1) := by decide +kernel
theorem dX10_lay_75 : decode cX10_lay 75 = .ok (.iconst 0, 1) := by decide +kernel
theorem dX10_lay_76 : decode cX10_lay 76 = .ok (.istore 4, 2) := by decide +kernel
theorem dX10_lay_78 : decode cX10_lay 78 = .ok (.iload 4, 2) := by decide +kernel
theorem dX10_lay_80 : decode cX10_lay 80 = .ok (.aload_n 0, 1) := by decide +kernel
theorem dX10_lay_81 : decode cX10_lay 81 = .ok (.getfield 31, 3) := by decide +kernel
theorem dX10_lay_84 : decode cX10_lay 84 = .ok (.getfield 63, 3) := by decide +kernel
theorem dX10_lay_87 : decode cX10_lay 87 = .ok (.if_icmp .ge 64, 3) := by decide +kernel
theorem dX10_lay_90 : decode cX10_lay 90 = .ok (.aload_n 0, 1) := by decide +kernel
theorem dX10_lay_91 : decode cX10_lay 91 = .ok (.getfield 31, 3) := by decide +kernel
theorem dX10_lay_94 : decode cX10_lay 94 = .ok (.getfield 45, 3) := by decide +kernel
theorem dX10_lay_97 : decode cX10_lay 97 = .ok (.iload 4, 2) := by decide +kernel
theorem dX10_lay_99 : decode cX10_lay 99 = .ok (.iaload, 1) := by decide +kernel
theorem dX10_lay_100 : decode cX10_lay 100 = .ok (.iconst 1, 1) := by decide +kernel
theorem dX10_lay_101 : decode cX10_lay 101 = .ok (.if_icmp .eq 44, 3) := by decide +kernel
theorem dX10_lay_104 : decode cX10_lay 104 = .ok (.aload_n 1, 1) := by decide +kernel
theorem dX10_lay_105 : decode cX10_lay 105 = .ok (.getfield 66, 3) := by decide +kernel
theorem dX10_lay_108 : decode cX10_lay 108 = .ok (.iload 4, 2) := by decide +kernel
theorem dX10_lay_110 : decode cX10_lay 110 = .ok (.iaload, 1) := by decide +kernel
theorem dX10_lay_111 : decode cX10_lay 111 = .ok (.istore 5, 2) := by decide +kernel
theorem dX10_lay_113 : decode cX10_lay 113 = .ok (.aload_n 0, 1) := by decide +kernel
theorem dX10_lay_114 : decode cX10_lay 114 = .ok (.getfield 22, 3) := by decide +kernel
theorem dX10_lay_117 : decode cX10_lay 117 = .ok (.iload 5, 2) := by decide +kernel
theorem dX10_lay_119 : decode cX10_lay 119 = .ok (.dup2, 1) := by decide +kernel
theorem dX10_lay_120 : decode cX10_lay 120 = .ok (.iaload, 1) := by decide +kernel
theorem dX10_lay_121 : decode cX10_lay 121 = .ok (.aload_n 0, 1) := by decide +kernel
theorem dX10_lay_122 : decode cX10_lay 122 = .ok (.getfield 31, 3) := by decide +kernel
theorem dX10_lay_125 : decode cX10_lay 125 = .ok (.getfield 60, 3) := by decide +kernel
theorem dX10_lay_128 : decode cX10_lay 128 = .ok (.iload 5, 2) := by decide +kernel
theorem dX10_lay_130 : decode cX10_lay 130 = .ok (.iaload, 1) := by decide +kernel
theorem dX10_lay_131 : decode cX10_lay 131 = .ok (.aload_n 0, 1) := by decide +kernel
theorem dX10_lay_132 : decode cX10_lay 132 = .ok (.getfield 35, 3) := by decide +kernel
theorem dX10_lay_135 : decode cX10_lay 135 = .ok (.aload_n 1, 1) := by decide +kernel
theorem dX10_lay_136 : decode cX10_lay 136 = .ok (.iload 4, 2) := by decide +kernel
theorem dX10_lay_138 : decode cX10_lay 138 = .ok (.iload_n 3, 1) := by decide +kernel
theorem dX10_lay_139 : decode cX10_lay 139 = .ok (.invokevirtual 50, 3) := by decide +kernel
theorem dX10_lay_142 : decode cX10_lay 142 = .ok (.iand, 1) := by decide +kernel
theorem dX10_lay_143 : decode cX10_lay 143 = .ok (.ior, 1) := by decide +kernel
theorem dX10_lay_144 : decode cX10_lay 144 = .ok (.iastore, 1) := by decide +kernel
theorem dX10_lay_145 : decode cX10_lay 145 = .ok (.iinc 4 1, 3) := by decide +kernel
theorem dX10_lay_148 : decode cX10_lay 148 = .ok (.goto (-70), 3) := by decide +kernel
theorem dX10_lay_151 : decode cX10_lay 151 = .ok (.return_, 1) := by decide +kernel
theorem dX10_widen_0 : decode cX10_widen 0 = .ok (.iload_n 1, 1) := by decide +kernel
theorem dX10_widen_1 : decode cX10_widen 1 = .ok (.istore_n 2, 1) := by decide +kernel
theorem dX10_widen_2 : decode cX10_widen 2 = .ok (.iconst 0, 1) := by decide +kernel
theorem dX10_widen_3 : decode cX10_widen 3 = .ok (.istore_n 3, 1) := by decide +kernel
theorem dX10_widen_4 : decode cX10_widen 4 = .ok (.iload_n 3, 1) := by decide +kernel
theorem dX10_widen_5 : decode cX10_widen 5 = .ok (.aload_n 0, 1) := by decide +kernel
theorem dX10_widen_6 : decode cX10_widen 6 = .ok (.getfield 31, 3) := by decide +kernel
theorem dX10_widen_9 : decode cX10_widen 9 = .ok (.getfield 56, 3) := by decide +kernel
theorem dX10_widen_12 : decode cX10_widen 12 = .ok (.if_icmp .ge 26, 3) := by decide +kernel
theorem dX10_widen_15 : decode cX10_widen 15 = .ok (.iload_n 1, 1) := by decide +kernel
theorem dX10_widen_16 : decode cX10_widen 16 = .ok (.iload_n 3, 1) := by decide +kernel
theorem dX10_widen_17 : decode cX10_widen 17 = .ok (.invokestatic 69, 3) := by decide +kernel
theorem dX10_widen_20 : decode cX10_widen 20 = .ok (.ifCond .eq 12, 3) := by decide +kernel
theorem dX10_widen_23 : decode cX10_widen 23 = .ok (.iload_n 2, 1) := by decide +kernel
theorem dX10_widen_24 : decode cX10_widen 24 = .ok (.aload_n 0, 1) := by decide +kernel
theorem dX10_widen_25 : decode cX10_widen 25 = .ok (.getfield 22, 3) := by decide +kernel
theorem dX10_widen_28 : decode cX10_widen 28 = .ok (.iload_n 3, 1) := by decide +kernel
theorem dX10_widen_29 : decode cX10_widen 29 = .ok (.iaload, 1) := by decide +kernel
theorem dX10_widen_30 : decode cX10_widen 30 = .ok (.ior, 1) := by decide +kernel
theorem dX10_widen_31 : decode cX10_widen 31 = .ok (.istore_n 2, 1) := by decide +kernel
theorem dX10_widen_32 : decode cX10_widen 32 = .ok (.iinc 3 1, 3) := by decide +kernel
theorem dX10_widen_35 : decode cX10_widen 35 = .ok (.goto (-31), 3) := by decide +kernel
theorem dX10_widen_38 : decode cX10_widen 38 = .ok (.iload_n 2, 1) := by decide +kernel
theorem dX10_widen_39 : decode cX10_widen 39 = .ok (.ireturn, 1) := by decide +kernel
theorem dX10_spread_0 : decode cX10_spread 0 = .ok (.iload_n 1, 1) := by decide +kernel
theorem dX10_spread_1 : decode cX10_spread 1 = .ok (.istore_n 2, 1) := by decide +kernel
theorem dX10_spread_2 : decode cX10_spread 2 = .ok (.iconst 1, 1) := by decide +kernel
theorem dX10_spread_3 : decode cX10_spread 3 = .ok (.istore_n 3, 1) := by decide +kernel
theorem dX10_spread_4 : decode cX10_spread 4 = .ok (.iload_n 3, 1) := by decide +kernel
theorem dX10_spread_5 : decode cX10_spread 5 = .ok (.aload_n 0, 1) := by decide +kernel
theorem dX10_spread_6 : decode cX10_spread 6 = .ok (.getfield 31, 3) := by decide +kernel
theorem dX10_spread_9 : decode cX10_spread 9 = .ok (.getfield 56, 3) := by decide +kernel
theorem dX10_spread_12 : decode cX10_spread 12 = .ok (.if_icmp .ge 15, 3) := by decide +kernel
theorem dX10_spread_15 : decode cX10_spread 15 = .ok (.aload_n 0, 1) := by decide +kernel
theorem dX10_spread_16 : decode cX10_spread 16 = .ok (.iload_n 2, 1) := by decide +kernel
theorem dX10_spread_17 : decode cX10_spread 17 = .ok (.invokevirtual 73, 3) := by decide +kernel
theorem dX10_spread_20 : decode cX10_spread 20 = .ok (.istore_n 2, 1) := by decide +kernel
theorem dX10_spread_21 : decode cX10_spread 21 = .ok (.iinc 3 1, 3) := by decide +kernel
theorem dX10_spread_24 : decode cX10_spread 24 = .ok (.goto (-20), 3) := by decide +kernel
theorem dX10_spread_27 : decode cX10_spread 27 = .ok (.iload_n 2, 1) := by decide +kernel
theorem dX10_spread_28 : decode cX10_spread 28 = .ok (.ireturn, 1) := by decide +kernel
theorem dX10_reachOf_0 : decode cX10_reachOf 0 = .ok (.aload_n 0, 1) := by decide +kernel
theorem dX10_reachOf_1 : decode cX10_reachOf 1 = .ok (.aload_n 1, 1) := by decide +kernel
theorem dX10_reachOf_2 : decode cX10_reachOf 2 = .ok (.iload_n 2, 1) := by decide +kernel
theorem dX10_reachOf_3 : decode cX10_reachOf 3 = .ok (.iload_n 3, 1) := by decide +kernel
theorem dX10_reachOf_4 : decode cX10_reachOf 4 = .ok (.invokevirtual 77, 3) := by decide +kernel
theorem dX10_reachOf_7 : decode cX10_reachOf 7 = .ok (.aload_n 0, 1) := by decide +kernel
theorem dX10_reachOf_8 : decode cX10_reachOf 8 = .ok (.iconst 1, 1) := by decide +kernel
theorem dX10_reachOf_9 : decode cX10_reachOf 9 = .ok (.aload_n 1, 1) := by decide +kernel
theorem dX10_reachOf_10 : decode cX10_reachOf 10 = .ok (.getfield 66, 3) := by decide +kernel
theorem dX10_reachOf_13 : decode cX10_reachOf 13 = .ok (.iload_n 2, 1) := by decide +kernel
theorem dX10_reachOf_14 : decode cX10_reachOf 14 = .ok (.iaload, 1) := by decide +kernel
theorem dX10_reachOf_15 : decode cX10_reachOf 15 = .ok (.ishl, 1) := by decide +kernel
theorem dX10_reachOf_16 : decode cX10_reachOf 16 = .ok (.invokevirtual 81, 3) := by decide +kernel
theorem dX10_reachOf_19 : decode cX10_reachOf 19 = .ok (.ireturn, 1) := by decide +kernel
theorem dX10_distance_0 : decode cX10_distance 0 = .ok (.iconst 1, 1) := by decide +kernel
theorem dX10_distance_1 : decode cX10_distance 1 = .ok (.iload_n 1, 1) := by decide +kernel
theorem dX10_distance_2 : decode cX10_distance 2 = .ok (.ishl, 1) := by decide +kernel
theorem dX10_distance_3 : decode cX10_distance 3 = .ok (.istore_n 3, 1) := by decide +kernel
theorem dX10_distance_4 : decode cX10_distance 4 = .ok (.iconst 0, 1) := by decide +kernel
theorem dX10_distance_5 : decode cX10_distance 5 = .ok (.istore 4, 2) := by decide +kernel
theorem dX10_distance_7 : decode cX10_distance 7 = .ok (.iload 4, 2) := by decide +kernel
theorem dX10_distance_9 : decode cX10_distance 9 = .ok (.aload_n 0, 1) := by decide +kernel
theorem dX10_distance_10 : decode cX10_distance 10 = .ok (.getfield 31, 3) := by decide +kernel
theorem dX10_distance_13 : decode cX10_distance 13 = .ok (.getfield 56, 3) := by decide +kernel
theorem dX10_distance_16 : decode cX10_distance 16 = .ok (.if_icmp .ge 26, 3) := by decide +kernel
theorem dX10_distance_19 : decode cX10_distance 19 = .ok (.iload_n 3, 1) := by decide +kernel
theorem dX10_distance_20 : decode cX10_distance 20 = .ok (.iload_n 2, 1) := by decide +kernel
theorem dX10_distance_21 : decode cX10_distance 21 = .ok (.invokestatic 69, 3) := by decide +kernel
theorem dX10_distance_24 : decode cX10_distance 24 = .ok (.ifCond .eq 6, 3) := by decide +kernel
theorem dX10_distance_27 : decode cX10_distance 27 = .ok (.iload 4, 2) := by decide +kernel
theorem dX10_distance_29 : decode cX10_distance 29 = .ok (.ireturn, 1) := by decide +kernel
theorem dX10_distance_30 : decode cX10_distance 30 = .ok (.aload_n 0, 1) := by decide +kernel
theorem dX10_distance_31 : decode cX10_distance 31 = .ok (.iload_n 3, 1) := by decide +kernel
theorem dX10_distance_32 : decode cX10_distance 32 = .ok (.invokevirtual 73, 3) := by decide +kernel
theorem dX10_distance_35 : decode cX10_distance 35 = .ok (.istore_n 3, 1) := by decide +kernel
theorem dX10_distance_36 : decode cX10_distance 36 = .ok (.iinc 4 1, 3) := by decide +kernel
theorem dX10_distance_39 : decode cX10_distance 39 = .ok (.goto (-32), 3) := by decide +kernel
theorem dX10_distance_42 : decode cX10_distance 42 = .ok (.iconst (-1), 1) := by decide +kernel
theorem dX10_distance_43 : decode cX10_distance 43 = .ok (.ireturn, 1) := by decide +kernel
theorem dX10_firstStep_0 : decode cX10_firstStep 0 = .ok (.aload_n 0, 1) := by decide +kernel
theorem dX10_firstStep_1 : decode cX10_firstStep 1 = .ok (.iload_n 1, 1) := by decide +kernel
theorem dX10_firstStep_2 : decode cX10_firstStep 2 = .ok (.iload_n 2, 1) := by decide +kernel
theorem dX10_firstStep_3 : decode cX10_firstStep 3 = .ok (.invokevirtual 84, 3) := by decide +kernel
theorem dX10_firstStep_6 : decode cX10_firstStep 6 = .ok (.istore_n 3, 1) := by decide +kernel
theorem dX10_firstStep_7 : decode cX10_firstStep 7 = .ok (.iload_n 3, 1) := by decide +kernel
theorem dX10_firstStep_8 : decode cX10_firstStep 8 = .ok (.iconst 1, 1) := by decide +kernel
theorem dX10_firstStep_9 : decode cX10_firstStep 9 = .ok (.if_icmp .ge 5, 3) := by decide +kernel
theorem dX10_firstStep_12 : decode cX10_firstStep 12 = .ok (.iconst (-1), 1) := by decide +kernel
theorem dX10_firstStep_13 : decode cX10_firstStep 13 = .ok (.ireturn, 1) := by decide +kernel
theorem dX10_firstStep_14 : decode cX10_firstStep 14 = .ok (.iconst 0, 1) := by decide +kernel
theorem dX10_firstStep_15 : decode cX10_firstStep 15 = .ok (.istore 4, 2) := by decide +kernel
theorem dX10_firstStep_17 : decode cX10_firstStep 17 = .ok (.iload 4, 2) := by decide +kernel
theorem dX10_firstStep_19 : decode cX10_firstStep 19 = .ok (.aload_n 0, 1) := by decide +kernel
theorem dX10_firstStep_20 : decode cX10_firstStep 20 = .ok (.getfield 31, 3) := by decide +kernel
theorem dX10_firstStep_23 : decode cX10_firstStep 23 = .ok (.getfield 56, 3) := by decide +kernel
theorem dX10_firstStep_26 : decode cX10_firstStep 26 = .ok (.if_icmp .ge 39, 3) := by decide +kernel
theorem dX10_firstStep_29 : decode cX10_firstStep 29 = .ok (.aload_n 0, 1) := by decide +kernel
theorem dX10_firstStep_30 : decode cX10_firstStep 30 = .ok (.getfield 22, 3) := by decide +kernel
theorem dX10_firstStep_33 : decode cX10_firstStep 33 = .ok (.iload_n 1, 1) := by decide +kernel
theorem dX10_firstStep_34 : decode cX10_firstStep 34 = .ok (.iaload, 1) := by decide +kernel
theorem dX10_firstStep_35 : decode cX10_firstStep 35 = .ok (.iload 4, 2) := by decide +kernel
theorem dX10_firstStep_37 : decode cX10_firstStep 37 = .ok (.invokestatic 69, 3) := by decide +kernel
theorem dX10_firstStep_40 : decode cX10_firstStep 40 = .ok (.ifCond .eq 19, 3) := by decide +kernel
theorem dX10_firstStep_43 : decode cX10_firstStep 43 = .ok (.aload_n 0, 1) := by decide +kernel
theorem dX10_firstStep_44 : decode cX10_firstStep 44 = .ok (.iload 4, 2) := by decide +kernel
theorem dX10_firstStep_46 : decode cX10_firstStep 46 = .ok (.iload_n 2, 1) := by decide +kernel
theorem dX10_firstStep_47 : decode cX10_firstStep 47 = .ok (.invokevirtual 84, 3) := by decide +kernel
theorem dX10_firstStep_50 : decode cX10_firstStep 50 = .ok (.iload_n 3, 1) := by decide +kernel
theorem dX10_firstStep_51 : decode cX10_firstStep 51 = .ok (.iconst 1, 1) := by decide +kernel
theorem dX10_firstStep_52 : decode cX10_firstStep 52 = .ok (.isub, 1) := by decide +kernel
theorem dX10_firstStep_53 : decode cX10_firstStep 53 = .ok (.if_icmp .ne 6, 3) := by decide +kernel
theorem dX10_firstStep_56 : decode cX10_firstStep 56 = .ok (.iload 4, 2) := by decide +kernel
theorem dX10_firstStep_58 : decode cX10_firstStep 58 = .ok (.ireturn, 1) := by decide +kernel
theorem dX10_firstStep_59 : decode cX10_firstStep 59 = .ok (.iinc 4 1, 3) := by decide +kernel
theorem dX10_firstStep_62 : decode cX10_firstStep 62 = .ok (.goto (-45), 3) := by decide +kernel
theorem dX10_firstStep_65 : decode cX10_firstStep 65 = .ok (.iconst (-1), 1) := by decide +kernel
theorem dX10_firstStep_66 : decode cX10_firstStep 66 = .ok (.ireturn, 1) := by decide +kernel
theorem dX10_linkedTo_0 : decode cX10_linkedTo 0 = .ok (.aload_n 0, 1) := by decide +kernel
theorem dX10_linkedTo_1 : decode cX10_linkedTo 1 = .ok (.getfield 31, 3) := by decide +kernel
theorem dX10_linkedTo_4 : decode cX10_linkedTo 4 = .ok (.getfield 60, 3) := by decide +kernel
theorem dX10_linkedTo_7 : decode cX10_linkedTo 7 = .ok (.iconst 0, 1) := by decide +kernel
theorem dX10_linkedTo_8 : decode cX10_linkedTo 8 = .ok (.aload_n 0, 1) := by decide +kernel
theorem dX10_linkedTo_9 : decode cX10_linkedTo 9 = .ok (.getfield 22, 3) := by decide +kernel
theorem dX10_linkedTo_12 : decode cX10_linkedTo 12 = .ok (.iconst 0, 1) := by decide +kernel
theorem dX10_linkedTo_13 : decode cX10_linkedTo 13 = .ok (.bipush 6, 2) := by decide +kernel
theorem dX10_linkedTo_15 : decode cX10_linkedTo 15 = .ok (.invokestatic 88, 3) := by decide +kernel
theorem dX10_linkedTo_18 : decode cX10_linkedTo 18 = .ok (.aload_n 0, 1) := by decide +kernel
theorem dX10_linkedTo_19 : decode cX10_linkedTo 19 = .ok (.iconst 1, 1) := by decide +kernel
theorem dX10_linkedTo_20 : decode cX10_linkedTo 20 = .ok (.iload_n 1, 1) := by decide +kernel
theorem dX10_linkedTo_21 : decode cX10_linkedTo 21 = .ok (.ishl, 1) := by decide +kernel
theorem dX10_linkedTo_22 : decode cX10_linkedTo 22 = .ok (.invokevirtual 81, 3) := by decide +kernel
theorem dX10_linkedTo_25 : decode cX10_linkedTo 25 = .ok (.ireturn, 1) := by decide +kernel
theorem dX10_findSoonest_0 : decode cX10_findSoonest 0 = .ok (.iconst 1, 1) := by decide +kernel
theorem dX10_findSoonest_1 : decode cX10_findSoonest 1 = .ok (.aload_n 1, 1) := by decide +kernel
theorem dX10_findSoonest_2 : decode cX10_findSoonest 2 = .ok (.getfield 66, 3) := by decide +kernel
theorem dX10_findSoonest_5 : decode cX10_findSoonest 5 = .ok (.iload_n 2, 1) := by decide +kernel
theorem dX10_findSoonest_6 : decode cX10_findSoonest 6 = .ok (.iaload, 1) := by decide +kernel
theorem dX10_findSoonest_7 : decode cX10_findSoonest 7 = .ok (.ishl, 1) := by decide +kernel
theorem dX10_findSoonest_8 : decode cX10_findSoonest 8 = .ok (.istore 4, 2) := by decide +kernel
theorem dX10_findSoonest_10 : decode cX10_findSoonest 10 = .ok (.iload_n 3, 1) := by decide +kernel
theorem dX10_findSoonest_11 : decode cX10_findSoonest 11 = .ok (.aload_n 0, 1) := by decide +kernel
theorem dX10_findSoonest_12 : decode cX10_findSoonest 12 = .ok (.aload_n 1, 1) := by decide +kernel
theorem dX10_findSoonest_13 : decode cX10_findSoonest 13 = .ok (.getfield 66, 3) := by decide +kernel
theorem dX10_findSoonest_16 : decode cX10_findSoonest 16 = .ok (.iload_n 2, 1) := by decide +kernel
theorem dX10_findSoonest_17 : decode cX10_findSoonest 17 = .ok (.iaload, 1) := by decide +kernel
theorem dX10_findSoonest_18 : decode cX10_findSoonest 18 = .ok (.invokevirtual 94, 3) := by decide +kernel
theorem dX10_findSoonest_21 : decode cX10_findSoonest 21 = .ok (.iand, 1) := by decide +kernel
theorem dX10_findSoonest_22 : decode cX10_findSoonest 22 = .ok (.istore 5, 2) := by decide +kernel
theorem dX10_findSoonest_24 : decode cX10_findSoonest 24 = .ok (.aload_n 0, 1) := by decide +kernel
theorem dX10_findSoonest_25 : decode cX10_findSoonest 25 = .ok (.getfield 25, 3) := by decide +kernel
theorem dX10_findSoonest_28 : decode cX10_findSoonest 28 = .ok (.iconst (-1), 1) := by decide +kernel
theorem dX10_findSoonest_29 : decode cX10_findSoonest 29 = .ok (.invokestatic 39, 3) := by decide +kernel
theorem dX10_findSoonest_32 : decode cX10_findSoonest 32 = .ok (.aload_n 0, 1) := by decide +kernel
theorem dX10_findSoonest_33 : decode cX10_findSoonest 33 = .ok (.getfield 12, 3) := by decide +kernel
theorem dX10_findSoonest_36 : decode cX10_findSoonest 36 = .ok (.aload_n 1, 1) := by decide +kernel
theorem dX10_findSoonest_37 : decode cX10_findSoonest 37 = .ok (.invokevirtual 97, 3) := by decide +kernel
theorem dX10_findSoonest_40 : decode cX10_findSoonest 40 = .ok (.iconst 0, 1) := by decide +kernel
theorem dX10_findSoonest_41 : decode cX10_findSoonest 41 = .ok (.istore 6, 2) := by decide +kernel
theorem dX10_findSoonest_43 : decode cX10_findSoonest 43 = .ok (.iload 6, 2) := by decide +kernel
theorem dX10_findSoonest_45 : decode cX10_findSoonest 45 = .ok (.bipush 99, 2) := by decide +kernel
theorem dX10_findSoonest_47 : decode cX10_findSoonest 47 = .ok (.if_icmp .gt 100, 3) := by decide +kernel
theorem dX10_findSoonest_50 : decode cX10_findSoonest 50 = .ok (.aload_n 0, 1) := by decide +kernel
theorem dX10_findSoonest_51 : decode cX10_findSoonest 51 = .ok (.aload_n 0, 1) := by decide +kernel
theorem dX10_findSoonest_52 : decode cX10_findSoonest 52 = .ok (.getfield 12, 3) := by decide +kernel
theorem dX10_findSoonest_55 : decode cX10_findSoonest 55 = .ok (.iload_n 2, 1) := by decide +kernel
theorem dX10_findSoonest_56 : decode cX10_findSoonest 56 = .ok (.iconst 0, 1) := by decide +kernel
theorem dX10_findSoonest_57 : decode cX10_findSoonest 57 = .ok (.invokevirtual 77, 3) := by decide +kernel
theorem dX10_findSoonest_60 : decode cX10_findSoonest 60 = .ok (.aload_n 0, 1) := by decide +kernel
theorem dX10_findSoonest_61 : decode cX10_findSoonest 61 = .ok (.iload 4, 2) := by decide +kernel
theorem dX10_findSoonest_63 : decode cX10_findSoonest 63 = .ok (.invokevirtual 81, 3) := by decide +kernel
theorem dX10_findSoonest_66 : decode cX10_findSoonest 66 = .ok (.istore 4, 2) := by decide +kernel
theorem dX10_findSoonest_68 : decode cX10_findSoonest 68 = .ok (.iconst 0, 1) := by decide +kernel
theorem dX10_findSoonest_69 : decode cX10_findSoonest 69 = .ok (.istore 7, 2) := by decide +kernel
theorem dX10_findSoonest_71 : decode cX10_findSoonest 71 = .ok (.iload 7, 2) := by decide +kernel
theorem dX10_findSoonest_73 : decode cX10_findSoonest 73 = .ok (.aload_n 0, 1) := by decide +kernel
theorem dX10_findSoonest_74 : decode cX10_findSoonest 74 = .ok (.getfield 31, 3) := by decide +kernel
theorem dX10_findSoonest_77 : decode cX10_findSoonest 77 = .ok (.getfield 56, 3) := by decide +kernel
theorem dX10_findSoonest_80 : decode cX10_findSoonest 80 = .ok (.if_icmp .ge 39, 3) := by decide +kernel
theorem dX10_findSoonest_83 : decode cX10_findSoonest 83 = .ok (.aload_n 0, 1) := by decide +kernel
theorem dX10_findSoonest_84 : decode cX10_findSoonest 84 = .ok (.getfield 25, 3) := by decide +kernel
theorem dX10_findSoonest_87 : decode cX10_findSoonest 87 = .ok (.iload 7, 2) := by decide +kernel
theorem dX10_findSoonest_89 : decode cX10_findSoonest 89 = .ok (.iaload, 1) := by decide +kernel
theorem dX10_findSoonest_90 : decode cX10_findSoonest 90 = .ok (.iconst (-1), 1) := by decide +kernel
theorem dX10_findSoonest_91 : decode cX10_findSoonest 91 = .ok (.if_icmp .ne 22, 3) := by decide +kernel
theorem dX10_findSoonest_94 : decode cX10_findSoonest 94 = .ok (.iload 4, 2) := by decide +kernel
theorem dX10_findSoonest_96 : decode cX10_findSoonest 96 = .ok (.iload 7, 2) := by decide +kernel
theorem dX10_findSoonest_98 : decode cX10_findSoonest 98 = .ok (.invokestatic 69, 3) := by decide +kernel
theorem dX10_findSoonest_101 : decode cX10_findSoonest 101 = .ok (.ifCond .eq 12, 3) := by decide +kernel
theorem dX10_findSoonest_104 : decode cX10_findSoonest 104 = .ok (.aload_n 0, 1) := by decide +kernel
theorem dX10_findSoonest_105 : decode cX10_findSoonest 105 = .ok (.getfield 25, 3) := by decide +kernel
theorem dX10_findSoonest_108 : decode cX10_findSoonest 108 = .ok (.iload 7, 2) := by decide +kernel
theorem dX10_findSoonest_110 : decode cX10_findSoonest 110 = .ok (.iload 6, 2) := by decide +kernel
theorem dX10_findSoonest_112 : decode cX10_findSoonest 112 = .ok (.iastore, 1) := by decide +kernel
theorem dX10_findSoonest_113 : decode cX10_findSoonest 113 = .ok (.iinc 7 1, 3) := by decide +kernel
theorem dX10_findSoonest_116 : decode cX10_findSoonest 116 = .ok (.goto (-45), 3) := by decide +kernel
theorem dX10_findSoonest_119 : decode cX10_findSoonest 119 = .ok (.iload 5, 2) := by decide +kernel
theorem dX10_findSoonest_121 : decode cX10_findSoonest 121 = .ok (.iload 4, 2) := by decide +kernel
theorem dX10_findSoonest_123 : decode cX10_findSoonest 123 = .ok (.iconst (-1), 1) := by decide +kernel
theorem dX10_findSoonest_124 : decode cX10_findSoonest 124 = .ok (.ixor, 1) := by decide +kernel
theorem dX10_findSoonest_125 : decode cX10_findSoonest 125 = .ok (.iand, 1) := by decide +kernel
theorem dX10_findSoonest_126 : decode cX10_findSoonest 126 = .ok (.ifCond .ne 4, 3) := by decide +kernel
theorem dX10_findSoonest_129 : decode cX10_findSoonest 129 = .ok (.return_, 1) := by decide +kernel
theorem dX10_findSoonest_130 : decode cX10_findSoonest 130 = .ok (.aload_n 0, 1) := by decide +kernel
theorem dX10_findSoonest_131 : decode cX10_findSoonest 131 = .ok (.getfield 35, 3) := by decide +kernel
theorem dX10_findSoonest_134 : decode cX10_findSoonest 134 = .ok (.aload_n 0, 1) := by decide +kernel
theorem dX10_findSoonest_135 : decode cX10_findSoonest 135 = .ok (.getfield 12, 3) := by decide +kernel
theorem dX10_findSoonest_138 : decode cX10_findSoonest 138 = .ok (.invokevirtual 101, 3) := by decide +kernel
theorem dX10_findSoonest_141 : decode cX10_findSoonest 141 = .ok (.iinc 6 1, 3) := by decide +kernel
theorem dX10_findSoonest_144 : decode cX10_findSoonest 144 = .ok (.goto (-101), 3) := by decide +kernel
theorem dX10_findSoonest_147 : decode cX10_findSoonest 147 = .ok (.return_, 1) := by decide +kernel
theorem dX10_waitForSoonest_0 : decode cX10_waitForSoonest 0 = .ok (.iconst 0, 1) := by decide +kernel
theorem dX10_waitForSoonest_1 : decode cX10_waitForSoonest 1 = .ok (.istore_n 1, 1) := by decide +kernel
theorem dX10_waitForSoonest_2 : decode cX10_waitForSoonest 2 = .ok (.iload_n 1, 1) := by decide +kernel
theorem dX10_waitForSoonest_3 : decode cX10_waitForSoonest 3 = .ok (.aload_n 0, 1) := by decide +kernel
theorem dX10_waitForSoonest_4 : decode cX10_waitForSoonest 4 = .ok (.getfield 31, 3) := by decide +kernel
theorem dX10_waitForSoonest_7 : decode cX10_waitForSoonest 7 = .ok (.getfield 56, 3) := by decide +kernel
theorem dX10_waitForSoonest_10 : decode cX10_waitForSoonest 10 = .ok (.if_icmp .ge 64, 3) := by decide +kernel
theorem dX10_waitForSoonest_13 : decode cX10_waitForSoonest 13 = .ok (.aload_n 0, 1) := by decide +kernel
theorem dX10_waitForSoonest_14 : decode cX10_waitForSoonest 14 = .ok (.getfield 28, 3) := by decide +kernel
theorem dX10_waitForSoonest_17 : decode cX10_waitForSoonest 17 = .ok (.iload_n 1, 1) := by decide +kernel
theorem dX10_waitForSoonest_18 : decode cX10_waitForSoonest 18 = .ok (.iaload, 1) := by decide +kernel
theorem dX10_waitForSoonest_19 : decode cX10_waitForSoonest 19 = .ok (.iconst (-1), 1) := by decide +kernel
theorem dX10_waitForSoonest_20 : decode cX10_waitForSoonest 20 = .ok (.if_icmp .eq 13, 3) := by decide +kernel
theorem dX10_waitForSoonest_23 : decode cX10_waitForSoonest 23 = .ok (.aload_n 0, 1) := by decide +kernel
theorem dX10_waitForSoonest_24 : decode cX10_waitForSoonest 24 = .ok (.getfield 25, 3) := by decide +kernel
theorem dX10_waitForSoonest_27 : decode cX10_waitForSoonest 27 = .ok (.iload_n 1, 1) := by decide +kernel
theorem dX10_waitForSoonest_28 : decode cX10_waitForSoonest 28 = .ok (.iaload, 1) := by decide +kernel
theorem dX10_waitForSoonest_29 : decode cX10_waitForSoonest 29 = .ok (.iconst (-1), 1) := by decide +kernel
theorem dX10_waitForSoonest_30 : decode cX10_waitForSoonest 30 = .ok (.if_icmp .ne 7, 3) := by decide +kernel
theorem dX10_waitForSoonest_33 : decode cX10_waitForSoonest 33 = .ok (.iconst 1, 1) := by decide +kernel
theorem dX10_waitForSoonest_34 : decode cX10_waitForSoonest 34 = .ok (.goto 4, 3) := by decide +kernel
theorem dX10_waitForSoonest_37 : decode cX10_waitForSoonest 37 = .ok (.iconst 0, 1) := by decide +kernel
theorem dX10_waitForSoonest_38 : decode cX10_waitForSoonest 38 = .ok (.istore_n 2, 1) := by decide +kernel
theorem dX10_waitForSoonest_39 : decode cX10_waitForSoonest 39 = .ok (.aload_n 0, 1) := by decide +kernel
theorem dX10_waitForSoonest_40 : decode cX10_waitForSoonest 40 = .ok (.getfield 28, 3) := by decide +kernel
theorem dX10_waitForSoonest_43 : decode cX10_waitForSoonest 43 = .ok (.iload_n 1, 1) := by decide +kernel
theorem dX10_waitForSoonest_44 : decode cX10_waitForSoonest 44 = .ok (.iload_n 2, 1) := by decide +kernel
theorem dX10_waitForSoonest_45 : decode cX10_waitForSoonest 45 = .ok (.ifCond .eq 7, 3) := by decide +kernel
theorem dX10_waitForSoonest_48 : decode cX10_waitForSoonest 48 = .ok (.iconst (-1), 1) := by decide +kernel
theorem dX10_waitForSoonest_49 : decode cX10_waitForSoonest 49 = .ok (.goto 18, 3) := by decide +kernel
theorem dX10_waitForSoonest_52 : decode cX10_waitForSoonest 52 = .ok (.aload_n 0, 1) := by decide +kernel
theorem dX10_waitForSoonest_53 : decode cX10_waitForSoonest 53 = .ok (.getfield 28, 3) := by decide +kernel
theorem dX10_waitForSoonest_56 : decode cX10_waitForSoonest 56 = .ok (.iload_n 1, 1) := by decide +kernel
theorem dX10_waitForSoonest_57 : decode cX10_waitForSoonest 57 = .ok (.iaload, 1) := by decide +kernel
theorem dX10_waitForSoonest_58 : decode cX10_waitForSoonest 58 = .ok (.aload_n 0, 1) := by decide +kernel
theorem dX10_waitForSoonest_59 : decode cX10_waitForSoonest 59 = .ok (.getfield 25, 3) := by decide +kernel
theorem dX10_waitForSoonest_62 : decode cX10_waitForSoonest 62 = .ok (.iload_n 1, 1) := by decide +kernel
theorem dX10_waitForSoonest_63 : decode cX10_waitForSoonest 63 = .ok (.iaload, 1) := by decide +kernel
theorem dX10_waitForSoonest_64 : decode cX10_waitForSoonest 64 = .ok (.invokestatic 104, 3) := by decide +kernel
theorem dX10_waitForSoonest_67 : decode cX10_waitForSoonest 67 = .ok (.iastore, 1) := by decide +kernel
theorem dX10_waitForSoonest_68 : decode cX10_waitForSoonest 68 = .ok (.iinc 1 1, 3) := by decide +kernel
theorem dX10_waitForSoonest_71 : decode cX10_waitForSoonest 71 = .ok (.goto (-69), 3) := by decide +kernel
theorem dX10_waitForSoonest_74 : decode cX10_waitForSoonest 74 = .ok (.return_, 1) := by decide +kernel
theorem dX10_soonestRound_0 : decode cX10_soonestRound 0 = .ok (.aload_n 0, 1) := by decide +kernel
theorem dX10_soonestRound_1 : decode cX10_soonestRound 1 = .ok (.getfield 31, 3) := by decide +kernel
theorem dX10_soonestRound_4 : decode cX10_soonestRound 4 = .ok (.invokevirtual 109, 3) := by decide +kernel
theorem dX10_soonestRound_7 : decode cX10_soonestRound 7 = .ok (.istore_n 3, 1) := by decide +kernel
theorem dX10_soonestRound_8 : decode cX10_soonestRound 8 = .ok (.aload_n 1, 1) := by decide +kernel
theorem dX10_soonestRound_9 : decode cX10_soonestRound 9 = .ok (.getfield 113, 3) := by decide +kernel
theorem dX10_soonestRound_12 : decode cX10_soonestRound 12 = .ok (.iload_n 2, 1) := by decide +kernel
theorem dX10_soonestRound_13 : decode cX10_soonestRound 13 = .ok (.iaload, 1) := by decide +kernel
theorem dX10_soonestRound_14 : decode cX10_soonestRound 14 = .ok (.iload_n 3, 1) := by decide +kernel
theorem dX10_soonestRound_15 : decode cX10_soonestRound 15 = .ok (.iand, 1) := by decide +kernel
theorem dX10_soonestRound_16 : decode cX10_soonestRound 16 = .ok (.istore 4, 2) := by decide +kernel
theorem dX10_soonestRound_18 : decode cX10_soonestRound 18 = .ok (.iload 4, 2) := by decide +kernel
theorem dX10_soonestRound_20 : decode cX10_soonestRound 20 = .ok (.aload_n 0, 1) := by decide +kernel
theorem dX10_soonestRound_21 : decode cX10_soonestRound 21 = .ok (.aload_n 1, 1) := by decide +kernel
theorem dX10_soonestRound_22 : decode cX10_soonestRound 22 = .ok (.getfield 66, 3) := by decide +kernel
theorem dX10_soonestRound_25 : decode cX10_soonestRound 25 = .ok (.iload_n 2, 1) := by decide +kernel
theorem dX10_soonestRound_26 : decode cX10_soonestRound 26 = .ok (.iaload, 1) := by decide +kernel
theorem dX10_soonestRound_27 : decode cX10_soonestRound 27 = .ok (.invokevirtual 94, 3) := by decide +kernel
theorem dX10_soonestRound_30 : decode cX10_soonestRound 30 = .ok (.ior, 1) := by decide +kernel
theorem dX10_soonestRound_31 : decode cX10_soonestRound 31 = .ok (.iload_n 3, 1) := by decide +kernel
theorem dX10_soonestRound_32 : decode cX10_soonestRound 32 = .ok (.if_icmp .eq 5, 3) := by decide +kernel
theorem dX10_soonestRound_35 : decode cX10_soonestRound 35 = .ok (.iconst (-1), 1) := by decide +kernel
theorem dX10_soonestRound_36 : decode cX10_soonestRound 36 = .ok (.ireturn, 1) := by decide +kernel
theorem dX10_soonestRound_37 : decode cX10_soonestRound 37 = .ok (.aload_n 0, 1) := by decide +kernel
theorem dX10_soonestRound_38 : decode cX10_soonestRound 38 = .ok (.getfield 18, 3) := by decide +kernel
theorem dX10_soonestRound_41 : decode cX10_soonestRound 41 = .ok (.iconst 0, 1) := by decide +kernel
theorem dX10_soonestRound_42 : decode cX10_soonestRound 42 = .ok (.invokestatic 39, 3) := by decide +kernel
theorem dX10_soonestRound_45 : decode cX10_soonestRound 45 = .ok (.aload_n 0, 1) := by decide +kernel
theorem dX10_soonestRound_46 : decode cX10_soonestRound 46 = .ok (.getfield 18, 3) := by decide +kernel
theorem dX10_soonestRound_49 : decode cX10_soonestRound 49 = .ok (.iload 4, 2) := by decide +kernel
theorem dX10_soonestRound_51 : decode cX10_soonestRound 51 = .ok (.iconst 1, 1) := by decide +kernel
theorem dX10_soonestRound_52 : decode cX10_soonestRound 52 = .ok (.aload_n 1, 1) := by decide +kernel
theorem dX10_soonestRound_53 : decode cX10_soonestRound 53 = .ok (.getfield 66, 3) := by decide +kernel
theorem dX10_soonestRound_56 : decode cX10_soonestRound 56 = .ok (.iload_n 2, 1) := by decide +kernel
theorem dX10_soonestRound_57 : decode cX10_soonestRound 57 = .ok (.iaload, 1) := by decide +kernel
theorem dX10_soonestRound_58 : decode cX10_soonestRound 58 = .ok (.ishl, 1) := by decide +kernel
theorem dX10_soonestRound_59 : decode cX10_soonestRound 59 = .ok (.iastore, 1) := by decide +kernel
theorem dX10_soonestRound_60 : decode cX10_soonestRound 60 = .ok (.aload_n 0, 1) := by decide +kernel
theorem dX10_soonestRound_61 : decode cX10_soonestRound 61 = .ok (.getfield 12, 3) := by decide +kernel
theorem dX10_soonestRound_64 : decode cX10_soonestRound 64 = .ok (.aload_n 1, 1) := by decide +kernel
theorem dX10_soonestRound_65 : decode cX10_soonestRound 65 = .ok (.invokevirtual 97, 3) := by decide +kernel
theorem dX10_soonestRound_68 : decode cX10_soonestRound 68 = .ok (.iconst 0, 1) := by decide +kernel
theorem dX10_soonestRound_69 : decode cX10_soonestRound 69 = .ok (.istore 5, 2) := by decide +kernel
theorem dX10_soonestRound_71 : decode cX10_soonestRound 71 = .ok (.iload 5, 2) := by decide +kernel
theorem dX10_soonestRound_73 : decode cX10_soonestRound 73 = .ok (.bipush 99, 2) := by decide +kernel
theorem dX10_soonestRound_75 : decode cX10_soonestRound 75 = .ok (.if_icmp .gt 64, 3) := by decide +kernel
theorem dX10_soonestRound_78 : decode cX10_soonestRound 78 = .ok (.aload_n 0, 1) := by decide +kernel
theorem dX10_soonestRound_79 : decode cX10_soonestRound 79 = .ok (.aload_n 0, 1) := by decide +kernel
theorem dX10_soonestRound_80 : decode cX10_soonestRound 80 = .ok (.getfield 12, 3) := by decide +kernel
theorem dX10_soonestRound_83 : decode cX10_soonestRound 83 = .ok (.iload_n 2, 1) := by decide +kernel
theorem dX10_soonestRound_84 : decode cX10_soonestRound 84 = .ok (.iconst 0, 1) := by decide +kernel
theorem dX10_soonestRound_85 : decode cX10_soonestRound 85 = .ok (.invokevirtual 77, 3) := by decide +kernel
theorem dX10_soonestRound_88 : decode cX10_soonestRound 88 = .ok (.iload 4, 2) := by decide +kernel
theorem dX10_soonestRound_90 : decode cX10_soonestRound 90 = .ok (.istore 6, 2) := by decide +kernel
theorem dX10_soonestRound_92 : decode cX10_soonestRound 92 = .ok (.iload 6, 2) := by decide +kernel
theorem dX10_soonestRound_94 : decode cX10_soonestRound 94 = .ok (.iload_n 3, 1) := by decide +kernel
theorem dX10_soonestRound_95 : decode cX10_soonestRound 95 = .ok (.if_icmp .gt 15, 3) := by decide +kernel
theorem dX10_soonestRound_98 : decode cX10_soonestRound 98 = .ok (.aload_n 0, 1) := by decide +kernel
theorem dX10_soonestRound_99 : decode cX10_soonestRound 99 = .ok (.iload 6, 2) := by decide +kernel
theorem dX10_soonestRound_101 : decode cX10_soonestRound 101 = .ok (.invokevirtual 116, 3) := by decide +kernel
theorem dX10_soonestRound_104 : decode cX10_soonestRound 104 = .ok (.iinc 6 1, 3) := by decide +kernel
theorem dX10_soonestRound_107 : decode cX10_soonestRound 107 = .ok (.goto (-15), 3) := by decide +kernel
theorem dX10_soonestRound_110 : decode cX10_soonestRound 110 = .ok (.aload_n 0, 1) := by decide +kernel
theorem dX10_soonestRound_111 : decode cX10_soonestRound 111 = .ok (.getfield 18, 3) := by decide +kernel
theorem dX10_soonestRound_114 : decode cX10_soonestRound 114 = .ok (.iload_n 3, 1) := by decide +kernel
theorem dX10_soonestRound_115 : decode cX10_soonestRound 115 = .ok (.iaload, 1) := by decide +kernel
theorem dX10_soonestRound_116 : decode cX10_soonestRound 116 = .ok (.ifCond .eq 6, 3) := by decide +kernel
theorem dX10_soonestRound_119 : decode cX10_soonestRound 119 = .ok (.iload 5, 2) := by decide +kernel
theorem dX10_soonestRound_121 : decode cX10_soonestRound 121 = .ok (.ireturn, 1) := by decide +kernel
theorem dX10_soonestRound_122 : decode cX10_soonestRound 122 = .ok (.aload_n 0, 1) := by decide +kernel
theorem dX10_soonestRound_123 : decode cX10_soonestRound 123 = .ok (.getfield 35, 3) := by decide +kernel
theorem dX10_soonestRound_126 : decode cX10_soonestRound 126 = .ok (.aload_n 0, 1) := by decide +kernel
theorem dX10_soonestRound_127 : decode cX10_soonestRound 127 = .ok (.getfield 12, 3) := by decide +kernel
theorem dX10_soonestRound_130 : decode cX10_soonestRound 130 = .ok (.invokevirtual 101, 3) := by decide +kernel
theorem dX10_soonestRound_133 : decode cX10_soonestRound 133 = .ok (.iinc 5 1, 3) := by decide +kernel
theorem dX10_soonestRound_136 : decode cX10_soonestRound 136 = .ok (.goto (-65), 3) := by decide +kernel
theorem dX10_soonestRound_139 : decode cX10_soonestRound 139 = .ok (.iconst (-1), 1) := by decide +kernel
theorem dX10_soonestRound_140 : decode cX10_soonestRound 140 = .ok (.ireturn, 1) := by decide +kernel
theorem dX10_wander_0 : decode cX10_wander 0 = .ok (.aload_n 0, 1) := by decide +kernel
theorem dX10_wander_1 : decode cX10_wander 1 = .ok (.getfield 18, 3) := by decide +kernel
theorem dX10_wander_4 : decode cX10_wander 4 = .ok (.iload_n 1, 1) := by decide +kernel
theorem dX10_wander_5 : decode cX10_wander 5 = .ok (.iaload, 1) := by decide +kernel
theorem dX10_wander_6 : decode cX10_wander 6 = .ok (.ifCond .ne 4, 3) := by decide +kernel
theorem dX10_wander_9 : decode cX10_wander 9 = .ok (.return_, 1) := by decide +kernel
theorem dX10_wander_10 : decode cX10_wander 10 = .ok (.aload_n 0, 1) := by decide +kernel
theorem dX10_wander_11 : decode cX10_wander 11 = .ok (.getfield 18, 3) := by decide +kernel
theorem dX10_wander_14 : decode cX10_wander 14 = .ok (.iload_n 1, 1) := by decide +kernel
theorem dX10_wander_15 : decode cX10_wander 15 = .ok (.iaload, 1) := by decide +kernel
theorem dX10_wander_16 : decode cX10_wander 16 = .ok (.istore_n 2, 1) := by decide +kernel
theorem dX10_wander_17 : decode cX10_wander 17 = .ok (.iconst 1, 1) := by decide +kernel
theorem dX10_wander_18 : decode cX10_wander 18 = .ok (.istore_n 3, 1) := by decide +kernel
theorem dX10_wander_19 : decode cX10_wander 19 = .ok (.iload_n 3, 1) := by decide +kernel
theorem dX10_wander_20 : decode cX10_wander 20 = .ok (.aload_n 0, 1) := by decide +kernel
theorem dX10_wander_21 : decode cX10_wander 21 = .ok (.getfield 31, 3) := by decide +kernel
theorem dX10_wander_24 : decode cX10_wander 24 = .ok (.getfield 56, 3) := by decide +kernel
theorem dX10_wander_27 : decode cX10_wander 27 = .ok (.if_icmp .ge 19, 3) := by decide +kernel
