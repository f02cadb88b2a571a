theorem dX11_remember_18 : decode cX11_remember 18 = .ok (.getfield 88, 3) := by decide +kernel
theorem dX11_remember_21 : decode cX11_remember 21 = .ok (.iconst 1, 1) := by decide +kernel
theorem dX11_remember_22 : decode cX11_remember 22 = .ok (.iadd, 1) := by decide +kernel
theorem dX11_remember_23 : decode cX11_remember 23 = .ok (.bipush 16, 2) := by decide +kernel
theorem dX11_remember_25 : decode cX11_remember 25 = .ok (.irem, 1) := by decide +kernel
theorem dX11_remember_26 : decode cX11_remember 26 = .ok (.putfield 88, 3) := by decide +kernel
theorem dX11_remember_29 : decode cX11_remember 29 = .ok (.aload_n 0, 1) := by decide +kernel
theorem dX11_remember_30 : decode cX11_remember 30 = .ok (.aload_n 0, 1) := by decide +kernel
theorem dX11_remember_31 : decode cX11_remember 31 = .ok (.getfield 92, 3) := by decide +kernel
theorem dX11_remember_34 : decode cX11_remember 34 = .ok (.iconst 1, 1) := by decide +kernel
theorem dX11_remember_35 : decode cX11_remember 35 = .ok (.iadd, 1) := by decide +kernel
theorem dX11_remember_36 : decode cX11_remember 36 = .ok (.bipush 16, 2) := by decide +kernel
theorem dX11_remember_38 : decode cX11_remember 38 = .ok (.invokestatic 223, 3) := by decide +kernel
theorem dX11_remember_41 : decode cX11_remember 41 = .ok (.putfield 92, 3) := by decide +kernel
theorem dX11_remember_44 : decode cX11_remember 44 = .ok (.return_, 1) := by decide +kernel
theorem dX11_forgetPast_0 : decode cX11_forgetPast 0 = .ok (.aload_n 0, 1) := by decide +kernel
theorem dX11_forgetPast_1 : decode cX11_forgetPast 1 = .ok (.iconst 0, 1) := by decide +kernel
theorem dX11_forgetPast_2 : decode cX11_forgetPast 2 = .ok (.putfield 88, 3) := by decide +kernel
theorem dX11_forgetPast_5 : decode cX11_forgetPast 5 = .ok (.aload_n 0, 1) := by decide +kernel
theorem dX11_forgetPast_6 : decode cX11_forgetPast 6 = .ok (.iconst 0, 1) := by decide +kernel
theorem dX11_forgetPast_7 : decode cX11_forgetPast 7 = .ok (.putfield 92, 3) := by decide +kernel
theorem dX11_forgetPast_10 : decode cX11_forgetPast 10 = .ok (.return_, 1) := by decide +kernel
theorem dX11_mark_0 : decode cX11_mark 0 = .ok (.iload_n 1, 1) := by decide +kernel
theorem dX11_mark_1 : decode cX11_mark 1 = .ok (.ifCond .lt 8, 3) := by decide +kernel
theorem dX11_mark_4 : decode cX11_mark 4 = .ok (.iload_n 1, 1) := by decide +kernel
theorem dX11_mark_5 : decode cX11_mark 5 = .ok (.iconst 4, 1) := by decide +kernel
theorem dX11_mark_6 : decode cX11_mark 6 = .ok (.if_icmp .lt 5, 3) := by decide +kernel
theorem dX11_mark_9 : decode cX11_mark 9 = .ok (.iconst 0, 1) := by decide +kernel
theorem dX11_mark_10 : decode cX11_mark 10 = .ok (.ireturn, 1) := by decide +kernel
theorem dX11_mark_11 : decode cX11_mark 11 = .ok (.aload_n 0, 1) := by decide +kernel
theorem dX11_mark_12 : decode cX11_mark 12 = .ok (.getfield 84, 3) := by decide +kernel
theorem dX11_mark_15 : decode cX11_mark 15 = .ok (.iload_n 1, 1) := by decide +kernel
theorem dX11_mark_16 : decode cX11_mark 16 = .ok (.aaload, 1) := by decide +kernel
theorem dX11_mark_17 : decode cX11_mark 17 = .ok (.astore_n 3, 1) := by decide +kernel
theorem dX11_mark_18 : decode cX11_mark 18 = .ok (.iload_n 2, 1) := by decide +kernel
theorem dX11_mark_19 : decode cX11_mark 19 = .ok (.ifCond .ne 21, 3) := by decide +kernel
theorem dX11_mark_22 : decode cX11_mark 22 = .ok (.aload_n 3, 1) := by decide +kernel
theorem dX11_mark_23 : decode cX11_mark 23 = .ok (.aload_n 0, 1) := by decide +kernel
theorem dX11_mark_24 : decode cX11_mark 24 = .ok (.getfield 64, 3) := by decide +kernel
theorem dX11_mark_27 : decode cX11_mark 27 = .ok (.aload_n 0, 1) := by decide +kernel
theorem dX11_mark_28 : decode cX11_mark 28 = .ok (.getfield 36, 3) := by decide +kernel
theorem dX11_mark_31 : decode cX11_mark 31 = .ok (.aload_n 0, 1) := by decide +kernel
theorem dX11_mark_32 : decode cX11_mark 32 = .ok (.getfield 74, 3) := by decide +kernel
theorem dX11_mark_35 : decode cX11_mark 35 = .ok (.invokevirtual 229, 3) := by decide +kernel
theorem dX11_mark_38 : decode cX11_mark 38 = .ok (.iconst 1, 1) := by decide +kernel
theorem dX11_mark_39 : decode cX11_mark 39 = .ok (.ireturn, 1) := by decide +kernel
theorem dX11_mark_40 : decode cX11_mark 40 = .ok (.aload_n 3, 1) := by decide +kernel
theorem dX11_mark_41 : decode cX11_mark 41 = .ok (.getfield 125, 3) := by decide +kernel
theorem dX11_mark_44 : decode cX11_mark 44 = .ok (.ifCond .ne 5, 3) := by decide +kernel
theorem dX11_mark_47 : decode cX11_mark 47 = .ok (.iconst 0, 1) := by decide +kernel
theorem dX11_mark_48 : decode cX11_mark 48 = .ok (.ireturn, 1) := by decide +kernel
theorem dX11_mark_49 : decode cX11_mark 49 = .ok (.aload_n 0, 1) := by decide +kernel
theorem dX11_mark_50 : decode cX11_mark 50 = .ok (.getfield 64, 3) := by decide +kernel
theorem dX11_mark_53 : decode cX11_mark 53 = .ok (.aload_n 3, 1) := by decide +kernel
theorem dX11_mark_54 : decode cX11_mark 54 = .ok (.getfield 233, 3) := by decide +kernel
theorem dX11_mark_57 : decode cX11_mark 57 = .ok (.invokevirtual 221, 3) := by decide +kernel
theorem dX11_mark_60 : decode cX11_mark 60 = .ok (.aload_n 0, 1) := by decide +kernel
theorem dX11_mark_61 : decode cX11_mark 61 = .ok (.getfield 36, 3) := by decide +kernel
theorem dX11_mark_64 : decode cX11_mark 64 = .ok (.aload_n 3, 1) := by decide +kernel
theorem dX11_mark_65 : decode cX11_mark 65 = .ok (.getfield 236, 3) := by decide +kernel
theorem dX11_mark_68 : decode cX11_mark 68 = .ok (.invokevirtual 130, 3) := by decide +kernel
theorem dX11_mark_71 : decode cX11_mark 71 = .ok (.aload_n 0, 1) := by decide +kernel
theorem dX11_mark_72 : decode cX11_mark 72 = .ok (.getfield 74, 3) := by decide +kernel
theorem dX11_mark_75 : decode cX11_mark 75 = .ok (.aload_n 3, 1) := by decide +kernel
theorem dX11_mark_76 : decode cX11_mark 76 = .ok (.getfield 237, 3) := by decide +kernel
theorem dX11_mark_79 : decode cX11_mark 79 = .ok (.invokevirtual 238, 3) := by decide +kernel
theorem dX11_mark_82 : decode cX11_mark 82 = .ok (.aload_n 0, 1) := by decide +kernel
theorem dX11_mark_83 : decode cX11_mark 83 = .ok (.invokevirtual 122, 3) := by decide +kernel
theorem dX11_mark_86 : decode cX11_mark 86 = .ok (.iconst 1, 1) := by decide +kernel
theorem dX11_mark_87 : decode cX11_mark 87 = .ok (.ireturn, 1) := by decide +kernel
theorem dX11_judged_0 : decode cX11_judged 0 = .ok (.iconst (-1), 1) := by decide +kernel
theorem dX11_judged_1 : decode cX11_judged 1 = .ok (.istore_n 2, 1) := by decide +kernel
theorem dX11_judged_2 : decode cX11_judged 2 = .ok (.iconst (-1), 1) := by decide +kernel
theorem dX11_judged_3 : decode cX11_judged 3 = .ok (.istore_n 3, 1) := by decide +kernel
theorem dX11_judged_4 : decode cX11_judged 4 = .ok (.aload_n 0, 1) := by decide +kernel
theorem dX11_judged_5 : decode cX11_judged 5 = .ok (.getfield 19, 3) := by decide +kernel
theorem dX11_judged_8 : decode cX11_judged 8 = .ok (.invokevirtual 241, 3) := by decide +kernel
theorem dX11_judged_11 : decode cX11_judged 11 = .ok (.istore 4, 2) := by decide +kernel
theorem dX11_judged_13 : decode cX11_judged 13 = .ok (.aload_n 0, 1) := by decide +kernel
theorem dX11_judged_14 : decode cX11_judged 14 = .ok (.getfield 68, 3) := by decide +kernel
theorem dX11_judged_17 : decode cX11_judged 17 = .ok (.aload_n 0, 1) := by decide +kernel
theorem dX11_judged_18 : decode cX11_judged 18 = .ok (.getfield 19, 3) := by decide +kernel
theorem dX11_judged_21 : decode cX11_judged 21 = .ok (.invokevirtual 113, 3) := by decide +kernel
theorem dX11_judged_24 : decode cX11_judged 24 = .ok (.iconst 0, 1) := by decide +kernel
theorem dX11_judged_25 : decode cX11_judged 25 = .ok (.istore 5, 2) := by decide +kernel
theorem dX11_judged_27 : decode cX11_judged 27 = .ok (.iload 5, 2) := by decide +kernel
theorem dX11_judged_29 : decode cX11_judged 29 = .ok (.aload_n 0, 1) := by decide +kernel
theorem dX11_judged_30 : decode cX11_judged 30 = .ok (.getfield 36, 3) := by decide +kernel
theorem dX11_judged_33 : decode cX11_judged 33 = .ok (.getfield 116, 3) := by decide +kernel
theorem dX11_judged_36 : decode cX11_judged 36 = .ok (.if_icmp .ge 87, 3) := by decide +kernel
theorem dX11_judged_39 : decode cX11_judged 39 = .ok (.aload_n 0, 1) := by decide +kernel
theorem dX11_judged_40 : decode cX11_judged 40 = .ok (.getfield 36, 3) := by decide +kernel
theorem dX11_judged_43 : decode cX11_judged 43 = .ok (.iload 5, 2) := by decide +kernel
theorem dX11_judged_45 : decode cX11_judged 45 = .ok (.aload_n 0, 1) := by decide +kernel
theorem dX11_judged_46 : decode cX11_judged 46 = .ok (.getfield 48, 3) := by decide +kernel
theorem dX11_judged_49 : decode cX11_judged 49 = .ok (.aload_n 0, 1) := by decide +kernel
theorem dX11_judged_50 : decode cX11_judged 50 = .ok (.getfield 68, 3) := by decide +kernel
theorem dX11_judged_53 : decode cX11_judged 53 = .ok (.invokevirtual 245, 3) := by decide +kernel
theorem dX11_judged_56 : decode cX11_judged 56 = .ok (.ifCond .ne 18, 3) := by decide +kernel
theorem dX11_judged_59 : decode cX11_judged 59 = .ok (.iload_n 2, 1) := by decide +kernel
theorem dX11_judged_60 : decode cX11_judged 60 = .ok (.iconst (-1), 1) := by decide +kernel
theorem dX11_judged_61 : decode cX11_judged 61 = .ok (.if_icmp .ne 8, 3) := by decide +kernel
theorem dX11_judged_64 : decode cX11_judged 64 = .ok (.iload 5, 2) := by decide +kernel
theorem dX11_judged_66 : decode cX11_judged 66 = .ok (.goto 4, 3) := by decide +kernel
theorem dX11_judged_69 : decode cX11_judged 69 = .ok (.iload_n 2, 1) := by decide +kernel
theorem dX11_judged_70 : decode cX11_judged 70 = .ok (.istore_n 2, 1) := by decide +kernel
theorem dX11_judged_71 : decode cX11_judged 71 = .ok (.goto 46, 3) := by decide +kernel
theorem dX11_judged_74 : decode cX11_judged 74 = .ok (.iload_n 3, 1) := by decide +kernel
theorem dX11_judged_75 : decode cX11_judged 75 = .ok (.iconst (-1), 1) := by decide +kernel
theorem dX11_judged_76 : decode cX11_judged 76 = .ok (.if_icmp .ne 41, 3) := by decide +kernel
theorem dX11_judged_79 : decode cX11_judged 79 = .ok (.aload_n 0, 1) := by decide +kernel
theorem dX11_judged_80 : decode cX11_judged 80 = .ok (.getfield 36, 3) := by decide +kernel
theorem dX11_judged_83 : decode cX11_judged 83 = .ok (.iload 5, 2) := by decide +kernel
theorem dX11_judged_85 : decode cX11_judged 85 = .ok (.invokevirtual 249, 3) := by decide +kernel
theorem dX11_judged_88 : decode cX11_judged 88 = .ok (.iconst (-1), 1) := by decide +kernel
theorem dX11_judged_89 : decode cX11_judged 89 = .ok (.if_icmp .eq 28, 3) := by decide +kernel
theorem dX11_judged_92 : decode cX11_judged 92 = .ok (.aload_n 0, 1) := by decide +kernel
theorem dX11_judged_93 : decode cX11_judged 93 = .ok (.getfield 19, 3) := by decide +kernel
theorem dX11_judged_96 : decode cX11_judged 96 = .ok (.getfield 159, 3) := by decide +kernel
theorem dX11_judged_99 : decode cX11_judged 99 = .ok (.aload_n 0, 1) := by decide +kernel
theorem dX11_judged_100 : decode cX11_judged 100 = .ok (.getfield 36, 3) := by decide +kernel
theorem dX11_judged_103 : decode cX11_judged 103 = .ok (.iload 5, 2) := by decide +kernel
theorem dX11_judged_105 : decode cX11_judged 105 = .ok (.invokevirtual 249, 3) := by decide +kernel
theorem dX11_judged_108 : decode cX11_judged 108 = .ok (.iaload, 1) := by decide +kernel
theorem dX11_judged_109 : decode cX11_judged 109 = .ok (.iload 4, 2) := by decide +kernel
theorem dX11_judged_111 : decode cX11_judged 111 = .ok (.if_icmp .ne 6, 3) := by decide +kernel
theorem dX11_judged_114 : decode cX11_judged 114 = .ok (.iload 5, 2) := by decide +kernel
theorem dX11_judged_116 : decode cX11_judged 116 = .ok (.istore_n 3, 1) := by decide +kernel
theorem dX11_judged_117 : decode cX11_judged 117 = .ok (.iinc 5 1, 3) := by decide +kernel
theorem dX11_judged_120 : decode cX11_judged 120 = .ok (.goto (-93), 3) := by decide +kernel
theorem dX11_judged_123 : decode cX11_judged 123 = .ok (.iload_n 1, 1) := by decide +kernel
theorem dX11_judged_124 : decode cX11_judged 124 = .ok (.tableswitch 56 0 2 #[28, 30, 32], 28) := by decide +kernel
theorem dX11_judged_152 : decode cX11_judged 152 = .ok (.iload_n 2, 1) := by decide +kernel
theorem dX11_judged_153 : decode cX11_judged 153 = .ok (.ireturn, 1) := by decide +kernel
theorem dX11_judged_154 : decode cX11_judged 154 = .ok (.iload_n 3, 1) := by decide +kernel
theorem dX11_judged_155 : decode cX11_judged 155 = .ok (.ireturn, 1) := by decide +kernel
theorem dX11_judged_156 : decode cX11_judged 156 = .ok (.aload_n 0, 1) := by decide +kernel
theorem dX11_judged_157 : decode cX11_judged 157 = .ok (.aload_n 0, 1) := by decide +kernel
theorem dX11_judged_158 : decode cX11_judged 158 = .ok (.getfield 19, 3) := by decide +kernel
theorem dX11_judged_161 : decode cX11_judged 161 = .ok (.getfield 252, 3) := by decide +kernel
theorem dX11_judged_164 : decode cX11_judged 164 = .ok (.invokevirtual 188, 3) := by decide +kernel
theorem dX11_judged_167 : decode cX11_judged 167 = .ok (.aload_n 0, 1) := by decide +kernel
theorem dX11_judged_168 : decode cX11_judged 168 = .ok (.aload_n 0, 1) := by decide +kernel
theorem dX11_judged_169 : decode cX11_judged 169 = .ok (.getfield 68, 3) := by decide +kernel
theorem dX11_judged_172 : decode cX11_judged 172 = .ok (.getfield 150, 3) := by decide +kernel
theorem dX11_judged_175 : decode cX11_judged 175 = .ok (.invokevirtual 188, 3) := by decide +kernel
theorem dX11_judged_178 : decode cX11_judged 178 = .ok (.isub, 1) := by decide +kernel
theorem dX11_judged_179 : decode cX11_judged 179 = .ok (.ireturn, 1) := by decide +kernel
theorem dX11_judged_180 : decode cX11_judged 180 = .ok (.bipush (-2), 2) := by decide +kernel
theorem dX11_judged_182 : decode cX11_judged 182 = .ok (.ireturn, 1) := by decide +kernel
theorem dX11_reach_0 : decode cX11_reach 0 = .ok (.aload_n 0, 1) := by decide +kernel
theorem dX11_reach_1 : decode cX11_reach 1 = .ok (.iload_n 1, 1) := by decide +kernel
theorem dX11_reach_2 : decode cX11_reach 2 = .ok (.invokevirtual 133, 3) := by decide +kernel
theorem dX11_reach_5 : decode cX11_reach 5 = .ok (.ifCond .eq 19, 3) := by decide +kernel
theorem dX11_reach_8 : decode cX11_reach 8 = .ok (.aload_n 0, 1) := by decide +kernel
theorem dX11_reach_9 : decode cX11_reach 9 = .ok (.getfield 57, 3) := by decide +kernel
theorem dX11_reach_12 : decode cX11_reach 12 = .ok (.aload_n 0, 1) := by decide +kernel
theorem dX11_reach_13 : decode cX11_reach 13 = .ok (.getfield 64, 3) := by decide +kernel
theorem dX11_reach_16 : decode cX11_reach 16 = .ok (.iload_n 1, 1) := by decide +kernel
theorem dX11_reach_17 : decode cX11_reach 17 = .ok (.iconst 0, 1) := by decide +kernel
theorem dX11_reach_18 : decode cX11_reach 18 = .ok (.invokevirtual 253, 3) := by decide +kernel
theorem dX11_reach_21 : decode cX11_reach 21 = .ok (.goto 4, 3) := by decide +kernel
theorem dX11_reach_24 : decode cX11_reach 24 = .ok (.iconst (-1), 1) := by decide +kernel
theorem dX11_reach_25 : decode cX11_reach 25 = .ok (.ireturn, 1) := by decide +kernel
theorem dX11_frontiers_0 : decode cX11_frontiers 0 = .ok (.aload_n 0, 1) := by decide +kernel
theorem dX11_frontiers_1 : decode cX11_frontiers 1 = .ok (.iload_n 1, 1) := by decide +kernel
theorem dX11_frontiers_2 : decode cX11_frontiers 2 = .ok (.invokevirtual 133, 3) := by decide +kernel
theorem dX11_frontiers_5 : decode cX11_frontiers 5 = .ok (.ifCond .eq 11, 3) := by decide +kernel
theorem dX11_frontiers_8 : decode cX11_frontiers 8 = .ok (.aload_n 0, 1) := by decide +kernel
theorem dX11_frontiers_9 : decode cX11_frontiers 9 = .ok (.iload_n 2, 1) := by decide +kernel
theorem dX11_frontiers_10 : decode cX11_frontiers 10 = .ok (.invokevirtual 156, 3) := by decide +kernel
theorem dX11_frontiers_13 : decode cX11_frontiers 13 = .ok (.ifCond .ne 5, 3) := by decide +kernel
theorem dX11_frontiers_16 : decode cX11_frontiers 16 = .ok (.iconst (-1), 1) := by decide +kernel
theorem dX11_frontiers_17 : decode cX11_frontiers 17 = .ok (.ireturn, 1) := by decide +kernel
theorem dX11_frontiers_18 : decode cX11_frontiers 18 = .ok (.aload_n 0, 1) := by decide +kernel
theorem dX11_frontiers_19 : decode cX11_frontiers 19 = .ok (.getfield 57, 3) := by decide +kernel
theorem dX11_frontiers_22 : decode cX11_frontiers 22 = .ok (.aload_n 0, 1) := by decide +kernel
theorem dX11_frontiers_23 : decode cX11_frontiers 23 = .ok (.getfield 64, 3) := by decide +kernel
theorem dX11_frontiers_26 : decode cX11_frontiers 26 = .ok (.iload_n 1, 1) := by decide +kernel
theorem dX11_frontiers_27 : decode cX11_frontiers 27 = .ok (.iconst 0, 1) := by decide +kernel
theorem dX11_frontiers_28 : decode cX11_frontiers 28 = .ok (.invokevirtual 257, 3) := by decide +kernel
theorem dX11_frontiers_31 : decode cX11_frontiers 31 = .ok (.aload_n 0, 1) := by decide +kernel
theorem dX11_frontiers_32 : decode cX11_frontiers 32 = .ok (.getfield 57, 3) := by decide +kernel
theorem dX11_frontiers_35 : decode cX11_frontiers 35 = .ok (.aload_n 0, 1) := by decide +kernel
theorem dX11_frontiers_36 : decode cX11_frontiers 36 = .ok (.getfield 64, 3) := by decide +kernel
theorem dX11_frontiers_39 : decode cX11_frontiers 39 = .ok (.getfield 141, 3) := by decide +kernel
theorem dX11_frontiers_42 : decode cX11_frontiers 42 = .ok (.iload_n 1, 1) := by decide +kernel
theorem dX11_frontiers_43 : decode cX11_frontiers 43 = .ok (.iaload, 1) := by decide +kernel
theorem dX11_frontiers_44 : decode cX11_frontiers 44 = .ok (.iload_n 2, 1) := by decide +kernel
theorem dX11_frontiers_45 : decode cX11_frontiers 45 = .ok (.invokevirtual 259, 3) := by decide +kernel
theorem dX11_frontiers_48 : decode cX11_frontiers 48 = .ok (.ireturn, 1) := by decide +kernel
theorem dX11_guide_0 : decode cX11_guide 0 = .ok (.aload_n 0, 1) := by decide +kernel
theorem dX11_guide_1 : decode cX11_guide 1 = .ok (.iload_n 1, 1) := by decide +kernel
theorem dX11_guide_2 : decode cX11_guide 2 = .ok (.invokevirtual 133, 3) := by decide +kernel
theorem dX11_guide_5 : decode cX11_guide 5 = .ok (.ifCond .eq 11, 3) := by decide +kernel
theorem dX11_guide_8 : decode cX11_guide 8 = .ok (.aload_n 0, 1) := by decide +kernel
theorem dX11_guide_9 : decode cX11_guide 9 = .ok (.iload_n 2, 1) := by decide +kernel
theorem dX11_guide_10 : decode cX11_guide 10 = .ok (.invokevirtual 156, 3) := by decide +kernel
theorem dX11_guide_13 : decode cX11_guide 13 = .ok (.ifCond .ne 5, 3) := by decide +kernel
theorem dX11_guide_16 : decode cX11_guide 16 = .ok (.iconst (-1), 1) := by decide +kernel
theorem dX11_guide_17 : decode cX11_guide 17 = .ok (.ireturn, 1) := by decide +kernel
theorem dX11_guide_18 : decode cX11_guide 18 = .ok (.aload_n 0, 1) := by decide +kernel
theorem dX11_guide_19 : decode cX11_guide 19 = .ok (.getfield 57, 3) := by decide +kernel
theorem dX11_guide_22 : decode cX11_guide 22 = .ok (.aload_n 0, 1) := by decide +kernel
theorem dX11_guide_23 : decode cX11_guide 23 = .ok (.getfield 64, 3) := by decide +kernel
theorem dX11_guide_26 : decode cX11_guide 26 = .ok (.iload_n 1, 1) := by decide +kernel
theorem dX11_guide_27 : decode cX11_guide 27 = .ok (.iconst 0, 1) := by decide +kernel
theorem dX11_guide_28 : decode cX11_guide 28 = .ok (.invokevirtual 257, 3) := by decide +kernel
theorem dX11_guide_31 : decode cX11_guide 31 = .ok (.aload_n 0, 1) := by decide +kernel
theorem dX11_guide_32 : decode cX11_guide 32 = .ok (.getfield 57, 3) := by decide +kernel
theorem dX11_guide_35 : decode cX11_guide 35 = .ok (.aload_n 0, 1) := by decide +kernel
theorem dX11_guide_36 : decode cX11_guide 36 = .ok (.getfield 64, 3) := by decide +kernel
theorem dX11_guide_39 : decode cX11_guide 39 = .ok (.getfield 141, 3) := by decide +kernel
theorem dX11_guide_42 : decode cX11_guide 42 = .ok (.iload_n 1, 1) := by decide +kernel
theorem dX11_guide_43 : decode cX11_guide 43 = .ok (.iaload, 1) := by decide +kernel
theorem dX11_guide_44 : decode cX11_guide 44 = .ok (.iload_n 2, 1) := by decide +kernel
theorem dX11_guide_45 : decode cX11_guide 45 = .ok (.invokevirtual 262, 3) := by decide +kernel
theorem dX11_guide_48 : decode cX11_guide 48 = .ok (.ireturn, 1) := by decide +kernel
theorem dX11_when_0 : decode cX11_when 0 = .ok (.aload_n 0, 1) := by decide +kernel
theorem dX11_when_1 : decode cX11_when 1 = .ok (.iload_n 1, 1) := by decide +kernel
theorem dX11_when_2 : decode cX11_when 2 = .ok (.invokevirtual 133, 3) := by decide +kernel
theorem dX11_when_5 : decode cX11_when 5 = .ok (.ifCond .eq 11, 3) := by decide +kernel
theorem dX11_when_8 : decode cX11_when 8 = .ok (.aload_n 0, 1) := by decide +kernel
theorem dX11_when_9 : decode cX11_when 9 = .ok (.iload_n 2, 1) := by decide +kernel
theorem dX11_when_10 : decode cX11_when 10 = .ok (.invokevirtual 156, 3) := by decide +kernel
theorem dX11_when_13 : decode cX11_when 13 = .ok (.ifCond .ne 5, 3) := by decide +kernel
theorem dX11_when_16 : decode cX11_when 16 = .ok (.iconst (-1), 1) := by decide +kernel
theorem dX11_when_17 : decode cX11_when 17 = .ok (.ireturn, 1) := by decide +kernel
theorem dX11_when_18 : decode cX11_when 18 = .ok (.aload_n 0, 1) := by decide +kernel
theorem dX11_when_19 : decode cX11_when 19 = .ok (.getfield 57, 3) := by decide +kernel
theorem dX11_when_22 : decode cX11_when 22 = .ok (.aload_n 0, 1) := by decide +kernel
theorem dX11_when_23 : decode cX11_when 23 = .ok (.getfield 64, 3) := by decide +kernel
theorem dX11_when_26 : decode cX11_when 26 = .ok (.iload_n 1, 1) := by decide +kernel
theorem dX11_when_27 : decode cX11_when 27 = .ok (.iconst 1, 1) := by decide +kernel
theorem dX11_when_28 : decode cX11_when 28 = .ok (.iload_n 2, 1) := by decide +kernel
theorem dX11_when_29 : decode cX11_when 29 = .ok (.ishl, 1) := by decide +kernel
theorem dX11_when_30 : decode cX11_when 30 = .ok (.invokevirtual 265, 3) := by decide +kernel
theorem dX11_when_33 : decode cX11_when 33 = .ok (.aload_n 0, 1) := by decide +kernel
theorem dX11_when_34 : decode cX11_when 34 = .ok (.getfield 57, 3) := by decide +kernel
theorem dX11_when_37 : decode cX11_when 37 = .ok (.getfield 268, 3) := by decide +kernel
theorem dX11_when_40 : decode cX11_when 40 = .ok (.iload_n 2, 1) := by decide +kernel
theorem dX11_when_41 : decode cX11_when 41 = .ok (.iaload, 1) := by decide +kernel
theorem dX11_when_42 : decode cX11_when 42 = .ok (.ireturn, 1) := by decide +kernel
theorem dX11_round_0 : decode cX11_round 0 = .ok (.aload_n 0, 1) := by decide +kernel
theorem dX11_round_1 : decode cX11_round 1 = .ok (.iload_n 1, 1) := by decide +kernel
theorem dX11_round_2 : decode cX11_round 2 = .ok (.invokevirtual 133, 3) := by decide +kernel
theorem dX11_round_5 : decode cX11_round 5 = .ok (.ifCond .eq 18, 3) := by decide +kernel
theorem dX11_round_8 : decode cX11_round 8 = .ok (.aload_n 0, 1) := by decide +kernel
theorem dX11_round_9 : decode cX11_round 9 = .ok (.getfield 57, 3) := by decide +kernel
theorem dX11_round_12 : decode cX11_round 12 = .ok (.aload_n 0, 1) := by decide +kernel
theorem dX11_round_13 : decode cX11_round 13 = .ok (.getfield 64, 3) := by decide +kernel
theorem dX11_round_16 : decode cX11_round 16 = .ok (.iload_n 1, 1) := by decide +kernel
theorem dX11_round_17 : decode cX11_round 17 = .ok (.invokevirtual 271, 3) := by decide +kernel
theorem dX11_round_20 : decode cX11_round 20 = .ok (.goto 4, 3) := by decide +kernel
theorem dX11_round_23 : decode cX11_round 23 = .ok (.iconst (-1), 1) := by decide +kernel
theorem dX11_round_24 : decode cX11_round 24 = .ok (.ireturn, 1) := by decide +kernel
theorem dX11_trapped_0 : decode cX11_trapped 0 = .ok (.iconst 0, 1) := by decide +kernel
theorem dX11_trapped_1 : decode cX11_trapped 1 = .ok (.istore_n 1, 1) := by decide +kernel
theorem dX11_trapped_2 : decode cX11_trapped 2 = .ok (.iconst 0, 1) := by decide +kernel
theorem dX11_trapped_3 : decode cX11_trapped 3 = .ok (.istore_n 2, 1) := by decide +kernel
theorem dX11_trapped_4 : decode cX11_trapped 4 = .ok (.iload_n 2, 1) := by decide +kernel
theorem dX11_trapped_5 : decode cX11_trapped 5 = .ok (.aload_n 0, 1) := by decide +kernel
theorem dX11_trapped_6 : decode cX11_trapped 6 = .ok (.getfield 19, 3) := by decide +kernel
theorem dX11_trapped_9 : decode cX11_trapped 9 = .ok (.getfield 172, 3) := by decide +kernel
theorem dX11_trapped_12 : decode cX11_trapped 12 = .ok (.if_icmp .ge 48, 3) := by decide +kernel
theorem dX11_trapped_15 : decode cX11_trapped 15 = .ok (.aload_n 0, 1) := by decide +kernel
theorem dX11_trapped_16 : decode cX11_trapped 16 = .ok (.getfield 57, 3) := by decide +kernel
theorem dX11_trapped_19 : decode cX11_trapped 19 = .ok (.aload_n 0, 1) := by decide +kernel
theorem dX11_trapped_20 : decode cX11_trapped 20 = .ok (.getfield 64, 3) := by decide +kernel
theorem dX11_trapped_23 : decode cX11_trapped 23 = .ok (.iload_n 2, 1) := by decide +kernel
theorem dX11_trapped_24 : decode cX11_trapped 24 = .ok (.iconst 0, 1) := by decide +kernel
theorem dX11_trapped_25 : decode cX11_trapped 25 = .ok (.invokevirtual 257, 3) := by decide +kernel
theorem dX11_trapped_28 : decode cX11_trapped 28 = .ok (.aload_n 0, 1) := by decide +kernel
theorem dX11_trapped_29 : decode cX11_trapped 29 = .ok (.getfield 57, 3) := by decide +kernel
theorem dX11_trapped_32 : decode cX11_trapped 32 = .ok (.getfield 274, 3) := by decide +kernel
theorem dX11_trapped_35 : decode cX11_trapped 35 = .ok (.aload_n 0, 1) := by decide +kernel
theorem dX11_trapped_36 : decode cX11_trapped 36 = .ok (.getfield 64, 3) := by decide +kernel
theorem dX11_trapped_39 : decode cX11_trapped 39 = .ok (.getfield 141, 3) := by decide +kernel
theorem dX11_trapped_42 : decode cX11_trapped 42 = .ok (.iload_n 2, 1) := by decide +kernel
theorem dX11_trapped_43 : decode cX11_trapped 43 = .ok (.iaload, 1) := by decide +kernel
theorem dX11_trapped_44 : decode cX11_trapped 44 = .ok (.iaload, 1) := by decide +kernel
theorem dX11_trapped_45 : decode cX11_trapped 45 = .ok (.ifCond .ne 9, 3) := by decide +kernel
theorem dX11_trapped_48 : decode cX11_trapped 48 = .ok (.iload_n 1, 1) := by decide +kernel
theorem dX11_trapped_49 : decode cX11_trapped 49 = .ok (.iconst 1, 1) := by decide +kernel
theorem dX11_trapped_50 : decode cX11_trapped 50 = .ok (.iload_n 2, 1) := by decide +kernel
theorem dX11_trapped_51 : decode cX11_trapped 51 = .ok (.ishl, 1) := by decide +kernel
theorem dX11_trapped_52 : decode cX11_trapped 52 = .ok (.ior, 1) := by decide +kernel
theorem dX11_trapped_53 : decode cX11_trapped 53 = .ok (.istore_n 1, 1) := by decide +kernel
theorem dX11_trapped_54 : decode cX11_trapped 54 = .ok (.iinc 2 1, 3) := by decide +kernel
theorem dX11_trapped_57 : decode cX11_trapped 57 = .ok (.goto (-53), 3) := by decide +kernel
theorem dX11_trapped_60 : decode cX11_trapped 60 = .ok (.iload_n 1, 1) := by decide +kernel
theorem dX11_trapped_61 : decode cX11_trapped 61 = .ok (.ireturn, 1) := by decide +kernel
theorem dX11_shaven_0 : decode cX11_shaven 0 = .ok (.aload_n 0, 1) := by decide +kernel
theorem dX11_shaven_1 : decode cX11_shaven 1 = .ok (.iload_n 1, 1) := by decide +kernel
theorem dX11_shaven_2 : decode cX11_shaven 2 = .ok (.invokevirtual 133, 3) := by decide +kernel
theorem dX11_shaven_5 : decode cX11_shaven 5 = .ok (.ifCond .ne 5, 3) := by decide +kernel
theorem dX11_shaven_8 : decode cX11_shaven 8 = .ok (.iconst (-1), 1) := by decide +kernel
theorem dX11_shaven_9 : decode cX11_shaven 9 = .ok (.ireturn, 1) := by decide +kernel
theorem dX11_shaven_10 : decode cX11_shaven 10 = .ok (.aload_n 0, 1) := by decide +kernel
theorem dX11_shaven_11 : decode cX11_shaven 11 = .ok (.getfield 68, 3) := by decide +kernel
theorem dX11_shaven_14 : decode cX11_shaven 14 = .ok (.aload_n 0, 1) := by decide +kernel
theorem dX11_shaven_15 : decode cX11_shaven 15 = .ok (.getfield 64, 3) := by decide +kernel
theorem dX11_shaven_18 : decode cX11_shaven 18 = .ok (.invokevirtual 221, 3) := by decide +kernel
theorem dX11_shaven_21 : decode cX11_shaven 21 = .ok (.aload_n 0, 1) := by decide +kernel
theorem dX11_shaven_22 : decode cX11_shaven 22 = .ok (.getfield 68, 3) := by decide +kernel
theorem dX11_shaven_25 : decode cX11_shaven 25 = .ok (.iload_n 1, 1) := by decide +kernel
theorem dX11_shaven_26 : decode cX11_shaven 26 = .ok (.invokevirtual 213, 3) := by decide +kernel
theorem dX11_shaven_29 : decode cX11_shaven 29 = .ok (.aload_n 0, 1) := by decide +kernel
theorem dX11_shaven_30 : decode cX11_shaven 30 = .ok (.getfield 57, 3) := by decide +kernel
theorem dX11_shaven_33 : decode cX11_shaven 33 = .ok (.aload_n 0, 1) := by decide +kernel
theorem dX11_shaven_34 : decode cX11_shaven 34 = .ok (.getfield 68, 3) := by decide +kernel
theorem dX11_shaven_37 : decode cX11_shaven 37 = .ok (.iload_n 1, 1) := by decide +kernel
theorem dX11_shaven_38 : decode cX11_shaven 38 = .ok (.iconst 0, 1) := by decide +kernel
theorem dX11_shaven_39 : decode cX11_shaven 39 = .ok (.invokevirtual 253, 3) := by decide +kernel
theorem dX11_shaven_42 : decode cX11_shaven 42 = .ok (.ireturn, 1) := by decide +kernel
theorem dX11_stricter_0 : decode cX11_stricter 0 = .ok (.aload_n 0, 1) := by decide +kernel
theorem dX11_stricter_1 : decode cX11_stricter 1 = .ok (.iload_n 1, 1) := by decide +kernel
theorem dX11_stricter_2 : decode cX11_stricter 2 = .ok (.invokevirtual 156, 3) := by decide +kernel
theorem dX11_stricter_5 : decode cX11_stricter 5 = .ok (.ifCond .eq 13, 3) := by decide +kernel
theorem dX11_stricter_8 : decode cX11_stricter 8 = .ok (.iload_n 2, 1) := by decide +kernel
theorem dX11_stricter_9 : decode cX11_stricter 9 = .ok (.ifCond .lt 9, 3) := by decide +kernel
theorem dX11_stricter_12 : decode cX11_stricter 12 = .ok (.iload_n 2, 1) := by decide +kernel
theorem dX11_stricter_13 : decode cX11_stricter 13 = .ok (.bipush 9, 2) := by decide +kernel
theorem dX11_stricter_15 : decode cX11_stricter 15 = .ok (.if_icmp .le 5, 3) := by decide +kernel
theorem dX11_stricter_18 : decode cX11_stricter 18 = .ok (.iconst (-1), 1) := by decide +kernel
theorem dX11_stricter_19 : decode cX11_stricter 19 = .ok (.ireturn, 1) := by decide +kernel
theorem dX11_stricter_20 : decode cX11_stricter 20 = .ok (.iconst 0, 1) := by decide +kernel
theorem dX11_stricter_21 : decode cX11_stricter 21 = .ok (.istore_n 3, 1) := by decide +kernel
theorem dX11_stricter_22 : decode cX11_stricter 22 = .ok (.iconst 0, 1) := by decide +kernel
theorem dX11_stricter_23 : decode cX11_stricter 23 = .ok (.istore 4, 2) := by decide +kernel
theorem dX11_stricter_25 : decode cX11_stricter 25 = .ok (.iload 4, 2) := by decide +kernel
theorem dX11_stricter_27 : decode cX11_stricter 27 = .ok (.aload_n 0, 1) := by decide +kernel
theorem dX11_stricter_28 : decode cX11_stricter 28 = .ok (.getfield 19, 3) := by decide +kernel
theorem dX11_stricter_31 : decode cX11_stricter 31 = .ok (.getfield 172, 3) := by decide +kernel
theorem dX11_stricter_34 : decode cX11_stricter 34 = .ok (.if_icmp .ge 37, 3) := by decide +kernel
theorem dX11_stricter_37 : decode cX11_stricter 37 = .ok (.aload_n 0, 1) := by decide +kernel
theorem dX11_stricter_38 : decode cX11_stricter 38 = .ok (.getfield 57, 3) := by decide +kernel
theorem dX11_stricter_41 : decode cX11_stricter 41 = .ok (.aload_n 0, 1) := by decide +kernel
theorem dX11_stricter_42 : decode cX11_stricter 42 = .ok (.getfield 64, 3) := by decide +kernel
theorem dX11_stricter_45 : decode cX11_stricter 45 = .ok (.iload 4, 2) := by decide +kernel
theorem dX11_stricter_47 : decode cX11_stricter 47 = .ok (.iload_n 2, 1) := by decide +kernel
theorem dX11_stricter_48 : decode cX11_stricter 48 = .ok (.invokevirtual 253, 3) := by decide +kernel
theorem dX11_stricter_51 : decode cX11_stricter 51 = .ok (.iload_n 1, 1) := by decide +kernel
theorem dX11_stricter_52 : decode cX11_stricter 52 = .ok (.invokestatic 277, 3) := by decide +kernel
theorem dX11_stricter_55 : decode cX11_stricter 55 = .ok (.ifCond .eq 10, 3) := by decide +kernel
theorem dX11_stricter_58 : decode cX11_stricter 58 = .ok (.iload_n 3, 1) := by decide +kernel
theorem dX11_stricter_59 : decode cX11_stricter 59 = .ok (.iconst 1, 1) := by decide +kernel
theorem dX11_stricter_60 : decode cX11_stricter 60 = .ok (.iload 4, 2) := by decide +kernel
theorem dX11_stricter_62 : decode cX11_stricter 62 = .ok (.ishl, 1) := by decide +kernel
theorem dX11_stricter_63 : decode cX11_stricter 63 = .ok (.ior, 1) := by decide +kernel
theorem dX11_stricter_64 : decode cX11_stricter 64 = .ok (.istore_n 3, 1) := by decide +kernel
theorem dX11_stricter_65 : decode cX11_stricter 65 = .ok (.iinc 4 1, 3) := by decide +kernel
theorem dX11_stricter_68 : decode cX11_stricter 68 = .ok (.goto (-43), 3) := by decide +kernel
theorem dX11_stricter_71 : decode cX11_stricter 71 = .ok (.iload_n 3, 1) := by decide +kernel
theorem dX11_stricter_72 : decode cX11_stricter 72 = .ok (.ireturn, 1) := by decide +kernel
theorem dX11_need_0 : decode cX11_need 0 = .ok (.aload_n 0, 1) := by decide +kernel
theorem dX11_need_1 : decode cX11_need 1 = .ok (.iload_n 1, 1) := by decide +kernel
theorem dX11_need_2 : decode cX11_need 2 = .ok (.invokevirtual 133, 3) := by decide +kernel
theorem dX11_need_5 : decode cX11_need 5 = .ok (.ifCond .eq 20, 3) := by decide +kernel
theorem dX11_need_8 : decode cX11_need 8 = .ok (.aload_n 0, 1) := by decide +kernel
theorem dX11_need_9 : decode cX11_need 9 = .ok (.iload_n 2, 1) := by decide +kernel
theorem dX11_need_10 : decode cX11_need 10 = .ok (.invokevirtual 156, 3) := by decide +kernel
theorem dX11_need_13 : decode cX11_need 13 = .ok (.ifCond .eq 12, 3) := by decide +kernel
theorem dX11_need_16 : decode cX11_need 16 = .ok (.aload_n 0, 1) := by decide +kernel
theorem dX11_need_17 : decode cX11_need 17 = .ok (.iload_n 1, 1) := by decide +kernel
theorem dX11_need_18 : decode cX11_need 18 = .ok (.iload_n 2, 1) := by decide +kernel
theorem dX11_need_19 : decode cX11_need 19 = .ok (.invokevirtual 281, 3) := by decide +kernel
theorem dX11_need_22 : decode cX11_need 22 = .ok (.goto 4, 3) := by decide +kernel
theorem dX11_need_25 : decode cX11_need 25 = .ok (.iconst (-1), 1) := by decide +kernel
theorem dX11_need_26 : decode cX11_need 26 = .ok (.ireturn, 1) := by decide +kernel
theorem dX11_cheapest_0 : decode cX11_cheapest 0 = .ok (.aload_n 0, 1) := by decide +kernel
theorem dX11_cheapest_1 : decode cX11_cheapest 1 = .ok (.iload_n 1, 1) := by decide +kernel
theorem dX11_cheapest_2 : decode cX11_cheapest 2 = .ok (.invokevirtual 133, 3) := by decide +kernel
theorem dX11_cheapest_5 : decode cX11_cheapest 5 = .ok (.ifCond .ne 5, 3) := by decide +kernel
theorem dX11_cheapest_8 : decode cX11_cheapest 8 = .ok (.iconst (-1), 1) := by decide +kernel
theorem dX11_cheapest_9 : decode cX11_cheapest 9 = .ok (.ireturn, 1) := by decide +kernel
theorem dX11_cheapest_10 : decode cX11_cheapest 10 = .ok (.iconst (-1), 1) := by decide +kernel
theorem dX11_cheapest_11 : decode cX11_cheapest 11 = .ok (.istore_n 2, 1) := by decide +kernel
theorem dX11_cheapest_12 : decode cX11_cheapest 12 = .ok (.bipush 21, 2) := by decide +kernel
theorem dX11_cheapest_14 : decode cX11_cheapest 14 = .ok (.istore_n 3, 1) := by decide +kernel
theorem dX11_cheapest_15 : decode cX11_cheapest 15 = .ok (.iconst 0, 1) := by decide +kernel
theorem dX11_cheapest_16 : decode cX11_cheapest 16 = .ok (.istore 4, 2) := by decide +kernel
theorem dX11_cheapest_18 : decode cX11_cheapest 18 = .ok (.iload 4, 2) := by decide +kernel
theorem dX11_cheapest_20 : decode cX11_cheapest 20 = .ok (.aload_n 0, 1) := by decide +kernel
theorem dX11_cheapest_21 : decode cX11_cheapest 21 = .ok (.getfield 19, 3) := by decide +kernel
theorem dX11_cheapest_24 : decode cX11_cheapest 24 = .ok (.getfield 169, 3) := by decide +kernel
theorem dX11_cheapest_27 : decode cX11_cheapest 27 = .ok (.if_icmp .ge 35, 3) := by decide +kernel
theorem dX11_cheapest_30 : decode cX11_cheapest 30 = .ok (.aload_n 0, 1) := by decide +kernel
theorem dX11_cheapest_31 : decode cX11_cheapest 31 = .ok (.iload_n 1, 1) := by decide +kernel
theorem dX11_cheapest_32 : decode cX11_cheapest 32 = .ok (.iload 4, 2) := by decide +kernel
theorem dX11_cheapest_34 : decode cX11_cheapest 34 = .ok (.invokevirtual 281, 3) := by decide +kernel
theorem dX11_cheapest_37 : decode cX11_cheapest 37 = .ok (.istore 5, 2) := by decide +kernel
theorem dX11_cheapest_39 : decode cX11_cheapest 39 = .ok (.iload 5, 2) := by decide +kernel
theorem dX11_cheapest_41 : decode cX11_cheapest 41 = .ok (.ifCond .le 15, 3) := by decide +kernel
theorem dX11_cheapest_44 : decode cX11_cheapest 44 = .ok (.iload 5, 2) := by decide +kernel
theorem dX11_cheapest_46 : decode cX11_cheapest 46 = .ok (.iload_n 3, 1) := by decide +kernel
theorem dX11_cheapest_47 : decode cX11_cheapest 47 = .ok (.if_icmp .ge 9, 3) := by decide +kernel
theorem dX11_cheapest_50 : decode cX11_cheapest 50 = .ok (.iload 5, 2) := by decide +kernel
theorem dX11_cheapest_52 : decode cX11_cheapest 52 = .ok (.istore_n 3, 1) := by decide +kernel
theorem dX11_cheapest_53 : decode cX11_cheapest 53 = .ok (.iload 4, 2) := by decide +kernel
theorem dX11_cheapest_55 : decode cX11_cheapest 55 = .ok (.istore_n 2, 1) := by decide +kernel
theorem dX11_cheapest_56 : decode cX11_cheapest 56 = .ok (.iinc 4 1, 3) := by decide +kernel
theorem dX11_cheapest_59 : decode cX11_cheapest 59 = .ok (.goto (-41), 3) := by decide +kernel
theorem dX11_cheapest_62 : decode cX11_cheapest 62 = .ok (.iload_n 2, 1) := by decide +kernel
theorem dX11_cheapest_63 : decode cX11_cheapest 63 = .ok (.ireturn, 1) := by decide +kernel
theorem dX11_debt_0 : decode cX11_debt 0 = .ok (.aload_n 0, 1) := by decide +kernel
theorem dX11_debt_1 : decode cX11_debt 1 = .ok (.iload_n 1, 1) := by decide +kernel
theorem dX11_debt_2 : decode cX11_debt 2 = .ok (.invokevirtual 133, 3) := by decide +kernel
theorem dX11_debt_5 : decode cX11_debt 5 = .ok (.ifCond .eq 11, 3) := by decide +kernel
theorem dX11_debt_8 : decode cX11_debt 8 = .ok (.aload_n 0, 1) := by decide +kernel
theorem dX11_debt_9 : decode cX11_debt 9 = .ok (.iload_n 2, 1) := by decide +kernel
theorem dX11_debt_10 : decode cX11_debt 10 = .ok (.invokevirtual 156, 3) := by decide +kernel
theorem dX11_debt_13 : decode cX11_debt 13 = .ok (.ifCond .ne 5, 3) := by decide +kernel
theorem dX11_debt_16 : decode cX11_debt 16 = .ok (.iconst (-1), 1) := by decide +kernel
theorem dX11_debt_17 : decode cX11_debt 17 = .ok (.ireturn, 1) := by decide +kernel
theorem dX11_debt_18 : decode cX11_debt 18 = .ok (.aload_n 0, 1) := by decide +kernel
theorem dX11_debt_19 : decode cX11_debt 19 = .ok (.iload_n 1, 1) := by decide +kernel
theorem dX11_debt_20 : decode cX11_debt 20 = .ok (.iload_n 2, 1) := by decide +kernel
theorem dX11_debt_21 : decode cX11_debt 21 = .ok (.invokevirtual 281, 3) := by decide +kernel
theorem dX11_debt_24 : decode cX11_debt 24 = .ok (.istore_n 3, 1) := by decide +kernel
theorem dX11_debt_25 : decode cX11_debt 25 = .ok (.iload_n 3, 1) := by decide +kernel
theorem dX11_debt_26 : decode cX11_debt 26 = .ok (.iconst (-1), 1) := by decide +kernel
theorem dX11_debt_27 : decode cX11_debt 27 = .ok (.if_icmp .ne 5, 3) := by decide +kernel
theorem dX11_debt_30 : decode cX11_debt 30 = .ok (.iconst (-1), 1) := by decide +kernel
theorem dX11_debt_31 : decode cX11_debt 31 = .ok (.ireturn, 1) := by decide +kernel
theorem dX11_debt_32 : decode cX11_debt 32 = .ok (.iconst 0, 1) := by decide +kernel
theorem dX11_debt_33 : decode cX11_debt 33 = .ok (.iload_n 3, 1) := by decide +kernel
theorem dX11_debt_34 : decode cX11_debt 34 = .ok (.aload_n 0, 1) := by decide +kernel
theorem dX11_debt_35 : decode cX11_debt 35 = .ok (.getfield 19, 3) := by decide +kernel
theorem dX11_debt_38 : decode cX11_debt 38 = .ok (.getfield 178, 3) := by decide +kernel
theorem dX11_debt_41 : decode cX11_debt 41 = .ok (.imul, 1) := by decide +kernel
theorem dX11_debt_42 : decode cX11_debt 42 = .ok (.aload_n 0, 1) := by decide +kernel
theorem dX11_debt_43 : decode cX11_debt 43 = .ok (.getfield 64, 3) := by decide +kernel
theorem dX11_debt_46 : decode cX11_debt 46 = .ok (.getfield 150, 3) := by decide +kernel
theorem dX11_debt_49 : decode cX11_debt 49 = .ok (.iload_n 1, 1) := by decide +kernel
theorem dX11_debt_50 : decode cX11_debt 50 = .ok (.iaload, 1) := by decide +kernel
theorem dX11_debt_51 : decode cX11_debt 51 = .ok (.isub, 1) := by decide +kernel
theorem dX11_debt_52 : decode cX11_debt 52 = .ok (.invokestatic 284, 3) := by decide +kernel
theorem dX11_debt_55 : decode cX11_debt 55 = .ok (.ireturn, 1) := by decide +kernel
theorem dX11_fewestInches_0 : decode cX11_fewestInches 0 = .ok (.aload_n 0, 1) := by decide +kernel
theorem dX11_fewestInches_1 : decode cX11_fewestInches 1 = .ok (.getfield 19, 3) := by decide +kernel
theorem dX11_fewestInches_4 : decode cX11_fewestInches 4 = .ok (.getfield 137, 3) := by decide +kernel
theorem dX11_fewestInches_7 : decode cX11_fewestInches 7 = .ok (.iload_n 1, 1) := by decide +kernel
theorem dX11_fewestInches_8 : decode cX11_fewestInches 8 = .ok (.iaload, 1) := by decide +kernel
theorem dX11_fewestInches_9 : decode cX11_fewestInches 9 = .ok (.iconst 1, 1) := by decide +kernel
theorem dX11_fewestInches_10 : decode cX11_fewestInches 10 = .ok (.if_icmp .ne 7, 3) := by decide +kernel
theorem dX11_fewestInches_13 : decode cX11_fewestInches 13 = .ok (.iconst 0, 1) := by decide +kernel
theorem dX11_fewestInches_14 : decode cX11_fewestInches 14 = .ok (.goto 15, 3) := by decide +kernel
theorem dX11_fewestInches_17 : decode cX11_fewestInches 17 = .ok (.bipush 20, 2) := by decide +kernel
theorem dX11_fewestInches_19 : decode cX11_fewestInches 19 = .ok (.aload_n 0, 1) := by decide +kernel
