theorem dX11_remember_18 : decode cX11_remember 18 = .ok (.getfield 88, 3) := by decide +kernel
theorem dX11_remember_21 : decode cX11_remember 21 = .ok (.iconst 1, 1) := by decide +kernel
theorem dX11_remember_22 : decode cX11_remember 22 = .ok (.iadd, 1) := by decide +kernel
theorem dX11_remember_23 : decode cX11_remember 23 = .ok (.bipush 16, 2) := by decide +kernel
theorem dX11_remember_25 : decode cX11_remember 25 = .ok (.irem, 1) := by decide +kernel
theorem dX11_remember_26 : decode cX11_remember 26 = .ok (.putfield 88, 3) := by decide +kernel
theorem dX11_remember_29 : decode cX11_remember 29 = .ok (.aload_n 0, 1) := by decide +kernel
theorem dX11_remember_30 : decode cX11_remember 30 = .ok (.aload_n 0, 1) := by decide +kernel
theorem dX11_remember_31 : decode cX11_remember 31 = .ok (.getfield 92, 3) := by decide +kernel
theorem dX11_remember_34 : decode cX11_remember 34 = .ok (.iconst 1, 1) := by decide +kernel
theorem dX11_remember_35 : decode cX11_remember 35 = .ok (.iadd, 1) := by decide +kernel
theorem dX11_remember_36 : decode cX11_remember 36 = .ok (.bipush 16, 2) := by decide +kernel
theorem dX11_remember_38 : decode cX11_remember 38 = .ok (.invokestatic 223, 3) := by decide +kernel
theorem dX11_remember_41 : decode cX11_remember 41 = .ok (.putfield 92, 3) := by decide +kernel
theorem dX11_remember_44 : decode cX11_remember 44 = .ok (.return_, 1) := by decide +kernel
theorem dX11_forgetPast_0 : decode cX11_forgetPast 0 = .ok (.aload_n 0, 1) := by decide +kernel
theorem dX11_forgetPast_1 : decode cX11_forgetPast 1 = .ok (.iconst 0, 1) := by decide +kernel
theorem dX11_forgetPast_2 : decode cX11_forgetPast 2 = .ok (.putfield 88, 3) := by decide +kernel
theorem dX11_forgetPast_5 : decode cX11_forgetPast 5 = .ok (.aload_n 0, 1) := by decide +kernel
theorem dX11_forgetPast_6 : decode cX11_forgetPast 6 = .ok (.iconst 0, 1) := by decide +kernel
theorem dX11_forgetPast_7 : decode cX11_forgetPast 7 = .ok (.putfield 92, 3) := by decide +kernel
theorem dX11_forgetPast_10 : decode cX11_forgetPast 10 = .ok (.return_, 1) := by decide +kernel
theorem dX11_mark_0 : decode cX11_mark 0 = .ok (.iload_n 1, 1) := by decide +kernel
theorem dX11_mark_1 : decode cX11_mark 1 = .ok (.ifCond .lt 8, 3) := by decide +kernel
theorem dX11_mark_4 : decode cX11_mark 4 = .ok (.iload_n 1, 1) := by decide +kernel
theorem dX11_mark_5 : decode cX11_mark 5 = .ok (.iconst 4, 1) := by decide +kernel
theorem dX11_mark_6 : decode cX11_mark 6 = .ok (.if_icmp .lt 5, 3) := by decide +kernel
theorem dX11_mark_9 : decode cX11_mark 9 = .ok (.iconst 0, 1) := by decide +kernel
theorem dX11_mark_10 : decode cX11_mark 10 = .ok (.ireturn, 1) := by decide +kernel
theorem dX11_mark_11 : decode cX11_mark 11 = .ok (.aload_n 0, 1) := by decide +kernel
theorem dX11_mark_12 : decode cX11_mark 12 = .ok (.getfield 84, 3) := by decide +kernel
theorem dX11_mark_15 : decode cX11_mark 15 = .ok (.iload_n 1, 1) := by decide +kernel
theorem dX11_mark_16 : decode cX11_mark 16 = .ok (.aaload, 1) := by decide +kernel
theorem dX11_mark_17 : decode cX11_mark 17 = .ok (.astore_n 3, 1) := by decide +kernel
theorem dX11_mark_18 : decode cX11_mark 18 = .ok (.iload_n 2, 1) := by decide +kernel
theorem dX11_mark_19 : decode cX11_mark 19 = .ok (.ifCond .ne 21, 3) := by decide +kernel
theorem dX11_mark_22 : decode cX11_mark 22 = .ok (.aload_n 3, 1) := by decide +kernel
theorem dX11_mark_23 : decode cX11_mark 23 = .ok (.aload_n 0, 1) := by decide +kernel
theorem dX11_mark_24 : decode cX11_mark 24 = .ok (.getfield 64, 3) := by decide +kernel
theorem dX11_mark_27 : decode cX11_mark 27 = .ok (.aload_n 0, 1) := by decide +kernel
theorem dX11_mark_28 : decode cX11_mark 28 = .ok (.getfield 36, 3) := by decide +kernel
theorem dX11_mark_31 : decode cX11_mark 31 = .ok (.aload_n 0, 1) := by decide +kernel
theorem dX11_mark_32 : decode cX11_mark 32 = .ok (.getfield 74, 3) := by decide +kernel
theorem dX11_mark_35 : decode cX11_mark 35 = .ok (.invokevirtual 229, 3) := by decide +kernel
theorem dX11_mark_38 : decode cX11_mark 38 = .ok (.iconst 1, 1) := by decide +kernel
theorem dX11_mark_39 : decode cX11_mark 39 = .ok (.ireturn, 1) := by decide +kernel
theorem dX11_mark_40 : decode cX11_mark 40 = .ok (.aload_n 3, 1) := by decide +kernel
theorem dX11_mark_41 : decode cX11_mark 41 = .ok (.getfield 125, 3) := by decide +kernel
theorem dX11_mark_44 : decode cX11_mark 44 = .ok (.ifCond .ne 5, 3) := by decide +kernel
theorem dX11_mark_47 : decode cX11_mark 47 = .ok (.iconst 0, 1) := by decide +kernel
theorem dX11_mark_48 : decode cX11_mark 48 = .ok (.ireturn, 1) := by decide +kernel
theorem dX11_mark_49 : decode cX11_mark 49 = .ok (.aload_n 0, 1) := by decide +kernel
theorem dX11_mark_50 : decode cX11_mark 50 = .ok (.getfield 64, 3) := by decide +kernel
theorem dX11_mark_53 : decode cX11_mark 53 = .ok (.aload_n 3, 1) := by decide +kernel
theorem dX11_mark_54 : decode cX11_mark 54 = .ok (.getfield 233, 3) := by decide +kernel
theorem dX11_mark_57 : decode cX11_mark 57 = .ok (.invokevirtual 221, 3) := by decide +kernel
theorem dX11_mark_60 : decode cX11_mark 60 = .ok (.aload_n 0, 1) := by decide +kernel
theorem dX11_mark_61 : decode cX11_mark 61 = .ok (.getfield 36, 3) := by decide +kernel
theorem dX11_mark_64 : decode cX11_mark 64 = .ok (.aload_n 3, 1) := by decide +kernel
theorem dX11_mark_65 : decode cX11_mark 65 = .ok (.getfield 236, 3) := by decide +kernel
theorem dX11_mark_68 : decode cX11_mark 68 = .ok (.invokevirtual 130, 3) := by decide +kernel
theorem dX11_mark_71 : decode cX11_mark 71 = .ok (.aload_n 0, 1) := by decide +kernel
theorem dX11_mark_72 : decode cX11_mark 72 = .ok (.getfield 74, 3) := by decide +kernel
theorem dX11_mark_75 : decode cX11_mark 75 = .ok (.aload_n 3, 1) := by decide +kernel
theorem dX11_mark_76 : decode cX11_mark 76 = .ok (.getfield 237, 3) := by decide +kernel
theorem dX11_mark_79 : decode cX11_mark 79 = .ok (.invokevirtual 238, 3) := by decide +kernel
theorem dX11_mark_82 : decode cX11_mark 82 = .ok (.aload_n 0, 1) := by decide +kernel
theorem dX11_mark_83 : decode cX11_mark 83 = .ok (.invokevirtual 122, 3) := by decide +kernel
theorem dX11_mark_86 : decode cX11_mark 86 = .ok (.iconst 1, 1) := by decide +kernel
theorem dX11_mark_87 : decode cX11_mark 87 = .ok (.ireturn, 1) := by decide +kernel
theorem dX11_judged_0 : decode cX11_judged 0 = .ok (.iconst (-1), 1) := by decide +kernel
theorem dX11_judged_1 : decode cX11_judged 1 = .ok (.istore_n 2, 1) := by decide +kernel
theorem dX11_judged_2 : decode cX11_judged 2 = .ok (.iconst (-1), 1) := by decide +kernel
theorem dX11_judged_3 : decode cX11_judged 3 = .ok (.istore_n 3, 1) := by decide +kernel
theorem dX11_judged_4 : decode cX11_judged 4 = .ok (.aload_n 0, 1) := by decide +kernel
theorem dX11_judged_5 : decode cX11_judged 5 = .ok (.getfield 19, 3) := by decide +kernel
theorem dX11_judged_8 : decode cX11_judged 8 = .ok (.invokevirtual 241, 3) := by decide +kernel
theorem dX11_judged_11 : decode cX11_judged 11 = .ok (.istore 4, 2) := by decide +kernel
theorem dX11_judged_13 : decode cX11_judged 13 = .ok (.aload_n 0, 1) := by decide +kernel
theorem dX11_judged_14 : decode cX11_judged 14 = .ok (.getfield 68, 3) := by decide +kernel
theorem dX11_judged_17 : decode cX11_judged 17 = .ok (.aload_n 0, 1) := by decide +kernel
theorem dX11_judged_18 : decode cX11_judged 18 = .ok (.getfield 19, 3) := by decide +kernel
theorem dX11_judged_21 : decode cX11_judged 21 = .ok (.invokevirtual 113, 3) := by decide +kernel
theorem dX11_judged_24 : decode cX11_judged 24 = .ok (.iconst 0, 1) := by decide +kernel
theorem dX11_judged_25 : decode cX11_judged 25 = .ok (.istore 5, 2) := by decide +kernel
theorem dX11_judged_27 : decode cX11_judged 27 = .ok (.iload 5, 2) := by decide +kernel
theorem dX11_judged_29 : decode cX11_judged 29 = .ok (.aload_n 0, 1) := by decide +kernel
theorem dX11_judged_30 : decode cX11_judged 30 = .ok (.getfield 36, 3) := by decide +kernel
theorem dX11_judged_33 : decode cX11_judged 33 = .ok (.getfield 116, 3) := by decide +kernel
theorem dX11_judged_36 : decode cX11_judged 36 = .ok (.if_icmp .ge 87, 3) := by decide +kernel
theorem dX11_judged_39 : decode cX11_judged 39 = .ok (.aload_n 0, 1) := by decide +kernel
theorem dX11_judged_40 : decode cX11_judged 40 = .ok (.getfield 36, 3) := by decide +kernel
theorem dX11_judged_43 : decode cX11_judged 43 = .ok (.iload 5, 2) := by decide +kernel
theorem dX11_judged_45 : decode cX11_judged 45 = .ok (.aload_n 0, 1) := by decide +kernel
theorem dX11_judged_46 : decode cX11_judged 46 = .ok (.getfield 48, 3) := by decide +kernel
theorem dX11_judged_49 : decode cX11_judged 49 = .ok (.aload_n 0, 1) := by decide +kernel
theorem dX11_judged_50 : decode cX11_judged 50 = .ok (.getfield 68, 3) := by decide +kernel
theorem dX11_judged_53 : decode cX11_judged 53 = .ok (.invokevirtual 245, 3) := by decide +kernel
theorem dX11_judged_56 : decode cX11_judged 56 = .ok (.ifCond .ne 18, 3) := by decide +kernel
theorem dX11_judged_59 : decode cX11_judged 59 = .ok (.iload_n 2, 1) := by decide +kernel
theorem dX11_judged_60 : decode cX11_judged 60 = .ok (.iconst (-1), 1) := by decide +kernel
theorem dX11_judged_61 : decode cX11_judged 61 = .ok (.if_icmp .ne 8, 3) := by decide +kernel
theorem dX11_judged_64 : decode cX11_judged 64 = .ok (.iload 5, 2) := by decide +kernel
theorem dX11_judged_66 : decode cX11_judged 66 = .ok (.goto 4, 3) := by decide +kernel
theorem dX11_judged_69 : decode cX11_judged 69 = .ok (.iload_n 2, 1) := by decide +kernel
theorem dX11_judged_70 : decode cX11_judged 70 = .ok (.istore_n 2, 1) := by decide +kernel
theorem dX11_judged_71 : decode cX11_judged 71 = .ok (.goto 46, 3) := by decide +kernel
theorem dX11_judged_74 : decode cX11_judged 74 = .ok (.iload_n 3, 1) := by decide +kernel
theorem dX11_judged_75 : decode cX11_judged 75 = .ok (.iconst (-1), 1) := by decide +kernel
theorem dX11_judged_76 : decode cX11_judged 76 = .ok (.if_icmp .ne 41, 3) := by decide +kernel
theorem dX11_judged_79 : decode cX11_judged 79 = .ok (.aload_n 0, 1) := by decide +kernel
theorem dX11_judged_80 : decode cX11_judged 80 = .ok (.getfield 36, 3) := by decide +kernel
theorem dX11_judged_83 : decode cX11_judged 83 = .ok (.iload 5, 2) := by decide +kernel
theorem dX11_judged_85 : decode cX11_judged 85 = .ok (.invokevirtual 249, 3) := by decide +kernel
theorem dX11_judged_88 : decode cX11_judged 88 = .ok (.iconst (-1), 1) := by decide +kernel
theorem dX11_judged_89 : decode cX11_judged 89 = .ok (.if_icmp .eq 28, 3) := by decide +kernel
theorem dX11_judged_92 : decode cX11_judged 92 = .ok (.aload_n 0, 1) := by decide +kernel
theorem dX11_judged_93 : decode cX11_judged 93 = .ok (.getfield 19, 3) := by decide +kernel
theorem dX11_judged_96 : decode cX11_judged 96 = .ok (.getfield 159, 3) := by decide +kernel
theorem dX11_judged_99 : decode cX11_judged 99 = .ok (.aload_n 0, 1) := by decide +kernel
theorem dX11_judged_100 : decode cX11_judged 100 = .ok (.getfield 36, 3) := by decide +kernel
theorem dX11_judged_103 : decode cX11_judged 103 = .ok (.iload 5, 2) := by decide +kernel
theorem dX11_judged_105 : decode cX11_judged 105 = .ok (.invokevirtual 249, 3) := by decide +kernel
theorem dX11_judged_108 : decode cX11_judged 108 = .ok (.iaload, 1) := by decide +kernel
theorem dX11_judged_109 : decode cX11_judged 109 = .ok (.iload 4, 2) := by decide +kernel
theorem dX11_judged_111 : decode cX11_judged 111 = .ok (.if_icmp .ne 6, 3) := by decide +kernel
theorem dX11_judged_114 : decode cX11_judged 114 = .ok (.iload 5, 2) := by decide +kernel
theorem dX11_judged_116 : decode cX11_judged 116 = .ok (.istore_n 3, 1) := by decide +kernel
theorem dX11_judged_117 : decode cX11_judged 117 = .ok (.iinc 5 1, 3) := by decide +kernel
theorem dX11_judged_120 : decode cX11_judged 120 = .ok (.goto (-93), 3) := by decide +kernel
theorem dX11_judged_123 : decode cX11_judged 123 = .ok (.iload_n 1, 1) := by decide +kernel
theorem dX11_judged_124 : decode cX11_judged 124 = .ok (.tableswitch 56 0 2 #[28, 30, 32], 28) := by decide +kernel
theorem dX11_judged_152 : decode cX11_judged 152 = .ok (.iload_n 2, 1) := by decide +kernel
theorem dX11_judged_153 : decode cX11_judged 153 = .ok (.ireturn, 1) := by decide +kernel
theorem dX11_judged_154 : decode cX11_judged 154 = .ok (.iload_n 3, 1) := by decide +kernel
theorem dX11_judged_155 : decode cX11_judged 155 = .ok (.ireturn, 1) := by decide +kernel
theorem dX11_judged_156 : decode cX11_judged 156 = .ok (.aload_n 0, 1) := by decide +kernel
theorem dX11_judged_157 : decode cX11_judged 157 = .ok (.aload_n 0, 1) := by decide +kernel
theorem dX11_judged_158 : decode cX11_judged 158 = .ok (.getfield 19, 3) := by decide +kernel
theorem dX11_judged_161 : decode cX11_judged 161 = .ok (.getfield 252, 3) := by decide +kernel
theorem dX11_judged_164 : decode cX11_judged 164 = .ok (.invokevirtual 188, 3) := by decide +kernel
theorem dX11_judged_167 : decode cX11_judged 167 = .ok (.aload_n 0, 1) := by decide +kernel
theorem dX11_judged_168 : decode cX11_judged 168 = .ok (.aload_n 0, 1) := by decide +kernel
theorem dX11_judged_169 : decode cX11_judged 169 = .ok (.getfield 68, 3) := by decide +kernel
theorem dX11_judged_172 : decode cX11_judged 172 = .ok (.getfield 150, 3) := by decide +kernel
theorem dX11_judged_175 : decode cX11_judged 175 = .ok (.invokevirtual 188, 3) := by decide +kernel
theorem dX11_judged_178 : decode cX11_judged 178 = .ok (.isub, 1) := by decide +kernel
theorem dX11_judged_179 : decode cX11_judged 179 = .ok (.ireturn, 1) := by decide +kernel
theorem dX11_judged_180 : decode cX11_judged 180 = .ok (.bipush (-2), 2) := by decide +kernel
theorem dX11_judged_182 : decode cX11_judged 182 = .ok (.ireturn, 1) := by decide +kernel
theorem dX11_reach_0 : decode cX11_reach 0 = .ok (.aload_n 0, 1) := by decide +kernel
theorem dX11_reach_1 : decode cX11_reach 1 = .ok (.iload_n 1, 1) := by decide +kernel
theorem dX11_reach_2 : decode cX11_reach 2 = .ok (.invokevirtual 133, 3) := by decide +kernel
theorem dX11_reach_5 : decode cX11_reach 5 = .ok (.ifCond .eq 19, 3) := by decide +kernel
theorem dX11_reach_8 : decode cX11_reach 8 = .ok (.aload_n 0, 1) := by decide +kernel
theorem dX11_reach_9 : decode cX11_reach 9 = .ok (.getfield 57, 3) := by decide +kernel
theorem dX11_reach_12 : decode cX11_reach 12 = .ok (.aload_n 0, 1) := by decide +kernel
theorem dX11_reach_13 : decode cX11_reach 13 = .ok (.getfield 64, 3) := by decide +kernel
theorem dX11_reach_16 : decode cX11_reach 16 = .ok (.iload_n 1, 1) := by decide +kernel
theorem dX11_reach_17 : decode cX11_reach 17 = .ok (.iconst 0, 1) := by decide +kernel
theorem dX11_reach_18 : decode cX11_reach 18 = .ok (.invokevirtual 253, 3) := by decide +kernel
theorem dX11_reach_21 : decode cX11_reach 21 = .ok (.goto 4, 3) := by decide +kernel
theorem dX11_reach_24 : decode cX11_reach 24 = .ok (.iconst (-1), 1) := by decide +kernel
theorem dX11_reach_25 : decode cX11_reach 25 = .ok (.ireturn, 1) := by decide +kernel
theorem dX11_frontiers_0 : decode cX11_frontiers 0 = .ok (.aload_n 0, 1) := by decide +kernel
theorem dX11_frontiers_1 : decode cX11_frontiers 1 = .ok (.iload_n 1, 1) := by decide +kernel
theorem dX11_frontiers_2 : decode cX11_frontiers 2 = .ok (.invokevirtual 133, 3) := by decide +kernel
theorem dX11_frontiers_5 : decode cX11_frontiers 5 = .ok (.ifCond .eq 11, 3) := by decide +kernel
theorem dX11_frontiers_8 : decode cX11_frontiers 8 = .ok (.aload_n 0, 1) := by decide +kernel
theorem dX11_frontiers_9 : decode cX11_frontiers 9 = .ok (.iload_n 2, 1) := by decide +kernel
theorem dX11_frontiers_10 : decode cX11_frontiers 10 = .ok (.invokevirtual 156, 3) := by decide +kernel
theorem dX11_frontiers_13 : decode cX11_frontiers 13 = .ok (.ifCond .ne 5, 3) := by decide +kernel
theorem dX11_frontiers_16 : decode cX11_frontiers 16 = .ok (.iconst (-1), 1) := by decide +kernel
theorem dX11_frontiers_17 : decode cX11_frontiers 17 = .ok (.ireturn, 1) := by decide +kernel
theorem dX11_frontiers_18 : decode cX11_frontiers 18 = .ok (.aload_n 0, 1) := by decide +kernel
theorem dX11_frontiers_19 : decode cX11_frontiers 19 = .ok (.getfield 57, 3) := by decide +kernel
theorem dX11_frontiers_22 : decode cX11_frontiers 22 = .ok (.aload_n 0, 1) := by decide +kernel
theorem dX11_frontiers_23 : decode cX11_frontiers 23 = .ok (.getfield 64, 3) := by decide +kernel
theorem dX11_frontiers_26 : decode cX11_frontiers 26 = .ok (.iload_n 1, 1) := by decide +kernel
theorem dX11_frontiers_27 : decode cX11_frontiers 27 = .ok (.iconst 0, 1) := by decide +kernel
theorem dX11_frontiers_28 : decode cX11_frontiers 28 = .ok (.invokevirtual 257, 3) := by decide +kernel
theorem dX11_frontiers_31 : decode cX11_frontiers 31 = .ok (.aload_n 0, 1) := by decide +kernel
theorem dX11_frontiers_32 : decode cX11_frontiers 32 = .ok (.getfield 57, 3) := by decide +kernel
theorem dX11_frontiers_35 : decode cX11_frontiers 35 = .ok (.aload_n 0, 1) := by decide +kernel
theorem dX11_frontiers_36 : decode cX11_frontiers 36 = .ok (.getfield 64, 3) := by decide +kernel
theorem dX11_frontiers_39 : decode cX11_frontiers 39 = .ok (.getfield 141, 3) := by decide +kernel
theorem dX11_frontiers_42 : decode cX11_frontiers 42 = .ok (.iload_n 1, 1) := by decide +kernel
theorem dX11_frontiers_43 : decode cX11_frontiers 43 = .ok (.iaload, 1) := by decide +kernel
theorem dX11_frontiers_44 : decode cX11_frontiers 44 = .ok (.iload_n 2, 1) := by decide +kernel
theorem dX11_frontiers_45 : decode cX11_frontiers 45 = .ok (.invokevirtual 259, 3) := by decide +kernel
theorem dX11_frontiers_48 : decode cX11_frontiers 48 = .ok (.ireturn, 1) := by decide +kernel
theorem dX11_guide_0 : decode cX11_guide 0 = .ok (.aload_n 0, 1) := by decide +kernel
theorem dX11_guide_1 : decode cX11_guide 1 = .ok (.iload_n 1, 1) := by decide +kernel
theorem dX11_guide_2 : decode cX11_guide 2 = .ok (.invokevirtual 133, 3) := by decide +kernel
theorem dX11_guide_5 : decode cX11_guide 5 = .ok (.ifCond .eq 11, 3) := by decide +kernel
theorem dX11_guide_8 : decode cX11_guide 8 = .ok (.aload_n 0, 1) := by decide +kernel
theorem dX11_guide_9 : decode cX11_guide 9 = .ok (.iload_n 2, 1) := by decide +kernel
theorem dX11_guide_10 : decode cX11_guide 10 = .ok (.invokevirtual 156, 3) := by decide +kernel
theorem dX11_guide_13 : decode cX11_guide 13 = .ok (.ifCond .ne 5, 3) := by decide +kernel
theorem dX11_guide_16 : decode cX11_guide 16 = .ok (.iconst (-1), 1) := by decide +kernel
theorem dX11_guide_17 : decode cX11_guide 17 = .ok (.ireturn, 1) := by decide +kernel
theorem dX11_guide_18 : decode cX11_guide 18 = .ok (.aload_n 0, 1) := by decide +kernel
theorem dX11_guide_19 : decode cX11_guide 19 = .ok (.getfield 57, 3) := by decide +kernel
theorem dX11_guide_22 : decode cX11_guide 22 = .ok (.aload_n 0, 1) := by decide +kernel
theorem dX11_guide_23 : decode cX11_guide 23 = .ok (.getfield 64, 3) := by decide +kernel
theorem dX11_guide_26 : decode cX11_guide 26 = .ok (.iload_n 1, 1) := by decide +kernel
theorem dX11_guide_27 : decode cX11_guide 27 = .ok (.iconst 0, 1) := by decide +kernel
theorem dX11_guide_28 : decode cX11_guide 28 = .ok (.invokevirtual 257, 3) := by decide +kernel
theorem dX11_guide_31 : decode cX11_guide 31 = .ok (.aload_n 0, 1) := by decide +kernel
theorem dX11_guide_32 : decode cX11_guide 32 = .ok (.getfield 57, 3) := by decide +kernel
theorem dX11_guide_35 : decode cX11_guide 35 = .ok (.aload_n 0, 1) := by decide +kernel
theorem dX11_guide_36 : decode cX11_guide 36 = .ok (.getfield 64, 3) := by decide +kernel
theorem dX11_guide_39 : decode cX11_guide 39 = .ok (.getfield 141, 3) := by decide +kernel
theorem dX11_guide_42 : decode cX11_guide 42 = .ok (.iload_n 1, 1) := by decide +kernel
theorem dX11_guide_43 : decode cX11_guide 43 = .ok (.iaload, 1) := by decide +kernel
theorem dX11_guide_44 : decode cX11_guide 44 = .ok (.iload_n 2, 1) := by decide +kernel
theorem dX11_guide_45 : decode cX11_guide 45 = .ok (.invokevirtual 262, 3) := by decide +kernel
theorem dX11_guide_48 : decode cX11_guide 48 = .ok (.ireturn, 1) := by decide +kernel
theorem dX11_when_0 : decode cX11_when 0 = .ok (.aload_n 0, 1) := by decide +kernel
theorem dX11_when_1 : decode cX11_when 1 = .ok (.iload_n 1, 1) := by decide +kernel
theorem dX11_when_2 : decode cX11_when 2 = .ok (.invokevirtual 133, 3) := by decide +kernel
theorem dX11_when_5 : decode cX11_when 5 = .ok (.ifCond .eq 11, 3) := by decide +kernel
theorem dX11_when_8 : decode cX11_when 8 = .ok (.aload_n 0, 1) := by decide +kernel
theorem dX11_when_9 : decode cX11_when 9 = .ok (.iload_n 2, 1) := by decide +kernel
theorem dX11_when_10 : decode cX11_when 10 = .ok (.invokevirtual 156, 3) := by decide +kernel
theorem dX11_when_13 : decode cX11_when 13 = .ok (.ifCond .ne 5, 3) := by decide +kernel
theorem dX11_when_16 : decode cX11_when 16 = .ok (.iconst (-1), 1) := by decide +kernel
theorem dX11_when_17 : decode cX11_when 17 = .ok (.ireturn, 1) := by decide +kernel
theorem dX11_when_18 : decode cX11_when 18 = .ok (.aload_n 0, 1) := by decide +kernel
theorem dX11_when_19 : decode cX11_when 19 = .ok (.getfield 57, 3) := by decide +kernel
theorem dX11_when_22 : decode cX11_when 22 = .ok (.aload_n 0, 1) := by decide +kernel
theorem dX11_when_23 : decode cX11_when 23 = .ok (.getfield 64, 3) := by decide +kernel
theorem dX11_when_26 : decode cX11_when 26 = .ok (.iload_n 1, 1) := by decide +kernel
theorem dX11_when_27 : decode cX11_when 27 = .ok (.iconst 1, 1) := by decide +kernel
theorem dX11_when_28 : decode cX11_when 28 = .ok (.iload_n 2, 1) := by decide +kernel
theorem dX11_when_29 : decode cX11_when 29 = .ok (.ishl, 1) := by decide +kernel
theorem dX11_when_30 : decode cX11_when 30 = .ok (.invokevirtual 265, 3) := by decide +kernel
theorem dX11_when_33 : decode cX11_when 33 = .ok (.aload_n 0, 1) := by decide +kernel
theorem dX11_when_34 : decode cX11_when 34 = .ok (.getfield 57, 3) := by decide +kernel
theorem dX11_when_37 : decode cX11_when 37 = .ok (.getfield 268, 3) := by decide +kernel
theorem dX11_when_40 : decode cX11_when 40 = .ok (.iload_n 2, 1) := by decide +kernel
theorem dX11_when_41 : decode cX11_when 41 = .ok (.iaload, 1) := by decide +kernel
theorem dX11_when_42 : decode cX11_when 42 = .ok (.ireturn, 1) := by decide +kernel
theorem dX11_round_0 : decode cX11_round 0 = .ok (.aload_n 0, 1) := by decide +kernel
theorem dX11_round_1 : decode cX11_round 1 = .ok (.iload_n 1, 1) := by decide +kernel
theorem dX11_round_2 : decode cX11_round 2 = .ok (.invokevirtual 133, 3) := by decide +kernel
theorem dX11_round_5 : decode cX11_round 5 = .ok (.ifCond .eq 18, 3) := by decide +kernel
theorem dX11_round_8 : decode cX11_round 8 = .ok (.aload_n 0, 1) := by decide +kernel
theorem dX11_round_9 : decode cX11_round 9 = .ok (.getfield 57, 3) := by decide +kernel
theorem dX11_round_12 : decode cX11_round 12 = .ok (.aload_n 0, 1) := by decide +kernel
theorem dX11_round_13 : decode cX11_round 13 = .ok (.getfield 64, 3) := by decide +kernel
theorem dX11_round_16 : decode cX11_round 16 = .ok (.iload_n 1, 1) := by decide +kernel
theorem dX11_round_17 : decode cX11_round 17 = .ok (.invokevirtual 271, 3) := by decide +kernel
theorem dX11_round_20 : decode cX11_round 20 = .ok (.goto 4, 3) := by decide +kernel
theorem dX11_round_23 : decode cX11_round 23 = .ok (.iconst (-1), 1) := by decide +kernel
theorem dX11_round_24 : decode cX11_round 24 = .ok (.ireturn, 1) := by decide +kernel
theorem dX11_trapped_0 : decode cX11_trapped 0 = .ok (.iconst 0, 1) := by decide +kernel
theorem dX11_trapped_1 : decode cX11_trapped 1 = .ok (.istore_n 1, 1) := by decide +kernel
theorem dX11_trapped_2 : decode cX11_trapped 2 = .ok (.iconst 0, 1) := by decide +kernel
theorem dX11_trapped_3 : decode cX11_trapped 3 = .ok (.istore_n 2, 1) := by decide +kernel
theorem dX11_trapped_4 : decode cX11_trapped 4 = .ok (.iload_n 2, 1) := by decide +kernel
theorem dX11_trapped_5 : decode cX11_trapped 5 = .ok (.aload_n 0, 1) := by decide +kernel
theorem dX11_trapped_6 : decode cX11_trapped 6 = .ok (.getfield 19, 3) := by decide +kernel
theorem dX11_trapped_9 : decode cX11_trapped 9 = .ok (.getfield 172, 3) := by decide +kernel
theorem dX11_trapped_12 : decode cX11_trapped 12 = .ok (.if_icmp .ge 48, 3) := by decide +kernel
theorem dX11_trapped_15 : decode cX11_trapped 15 = .ok (.aload_n 0, 1) := by decide +kernel
theorem dX11_trapped_16 : decode cX11_trapped 16 = .ok (.getfield 57, 3) := by decide +kernel
theorem dX11_trapped_19 : decode cX11_trapped 19 = .ok (.aload_n 0, 1) := by decide +kernel
theorem dX11_trapped_20 : decode cX11_trapped 20 = .ok (.getfield 64, 3) := by decide +kernel
theorem dX11_trapped_23 : decode cX11_trapped 23 = .ok (.iload_n 2, 1) := by decide +kernel
theorem dX11_trapped_24 : decode cX11_trapped 24 = .ok (.iconst 0, 1) := by decide +kernel
theorem dX11_trapped_25 : decode cX11_trapped 25 = .ok (.invokevirtual 257, 3) := by decide +kernel
theorem dX11_trapped_28 : decode cX11_trapped 28 = .ok (.aload_n 0, 1) := by decide +kernel
theorem dX11_trapped_29 : decode cX11_trapped 29 = .ok (.getfield 57, 3) := by decide +kernel
theorem dX11_trapped_32 : decode cX11_trapped 32 = .ok (.getfield 274, 3) := by decide +kernel
theorem dX11_trapped_35 : decode cX11_trapped 35 = .ok (.aload_n 0, 1) := by decide +kernel
theorem dX11_trapped_36 : decode cX11_trapped 36 = .ok (.getfield 64, 3) := by decide +kernel
theorem dX11_trapped_39 : decode cX11_trapped 39 = .ok (.getfield 141, 3) := by decide +kernel
theorem dX11_trapped_42 : decode cX11_trapped 42 = .ok (.iload_n 2, 1) := by decide +kernel
theorem dX11_trapped_43 : decode cX11_trapped 43 = .ok (.iaload, 1) := by decide +kernel
theorem dX11_trapped_44 : decode cX11_trapped 44 = .ok (.iaload, 1) := by decide +kernel
theorem dX11_trapped_45 : decode cX11_trapped 45 = .ok (.ifCond .ne 9, 3) := by decide +kernel
theorem dX11_trapped_48 : decode cX11_trapped 48 = .ok (.iload_n 1, 1) := by decide +kernel
theorem dX11_trapped_49 : decode cX11_trapped 49 = .ok (.iconst 1, 1) := by decide +kernel
theorem dX11_trapped_50 : decode cX11_trapped 50 = .ok (.iload_n 2, 1) := by decide +kernel
theorem dX11_trapped_51 : decode cX11_trapped 51 = .ok (.ishl, 1) := by decide +kernel
theorem dX11_trapped_52 : decode cX11_trapped 52 = .ok (.ior, 1) := by decide +kernel
theorem dX11_trapped_53 : decode cX11_trapped 53 = .ok (.istore_n 1, 1) := by decide +kernel
theorem dX11_trapped_54 : decode cX11_trapped 54 = .ok (.iinc 2 1, 3) := by decide +kernel
theorem dX11_trapped_57 : decode cX11_trapped 57 = .ok (.goto (-53), 3) := by decide +kernel
theorem dX11_trapped_60 : decode cX11_trapped 60 = .ok (.iload_n 1, 1) := by decide +kernel
theorem dX11_trapped_61 : decode cX11_trapped 61 = .ok (.ireturn, 1) := by decide +kernel
theorem dX11_shaven_0 : decode cX11_shaven 0 = .ok (.aload_n 0, 1) := by decide +kernel
theorem dX11_shaven_1 : decode cX11_shaven 1 = .ok (.iload_n 1, 1) := by decide +kernel
theorem dX11_shaven_2 : decode cX11_shaven 2 = .ok (.invokevirtual 133, 3) := by decide +kernel
theorem dX11_shaven_5 : decode cX11_shaven 5 = .ok (.ifCond .ne 5, 3) := by decide +kernel
theorem dX11_shaven_8 : decode cX11_shaven 8 = .ok (.iconst (-1), 1) := by decide +kernel
theorem dX11_shaven_9 : decode cX11_shaven 9 = .ok (.ireturn, 1) := by decide +kernel
theorem dX11_shaven_10 : decode cX11_shaven 10 = .ok (.aload_n 0, 1) := by decide +kernel
theorem dX11_shaven_11 : decode cX11_shaven 11 = .ok (.getfield 68, 3) := by decide +kernel
theorem dX11_shaven_14 : decode cX11_shaven 14 = .ok (.aload_n 0, 1) := by decide +kernel
theorem dX11_shaven_15 : decode cX11_shaven 15 = .ok (.getfield 64, 3) := by decide +kernel
theorem dX11_shaven_18 : decode cX11_shaven 18 = .ok (.invokevirtual 221, 3) := by decide +kernel
theorem dX11_shaven_21 : decode cX11_shaven 21 = .ok (.aload_n 0, 1) := by decide +kernel
theorem dX11_shaven_22 : decode cX11_shaven 22 = .ok (.getfield 68, 3) := by decide +kernel
theorem dX11_shaven_25 : decode cX11_shaven 25 = .ok (.iload_n 1, 1) := by decide +kernel
theorem dX11_shaven_26 : decode cX11_shaven 26 = .ok (.invokevirtual 213, 3) := by decide +kernel
theorem dX11_shaven_29 : decode cX11_shaven 29 = .ok (.aload_n 0, 1) := by decide +kernel
theorem dX11_shaven_30 : decode cX11_shaven 30 = .ok (.getfield 57, 3) := by decide +kernel
theorem dX11_shaven_33 : decode cX11_shaven 33 = .ok (.aload_n 0, 1) := by decide +kernel
theorem dX11_shaven_34 : decode cX11_shaven 34 = .ok (.getfield 68, 3) := by decide +kernel
theorem dX11_shaven_37 : decode cX11_shaven 37 = .ok (.iload_n 1, 1) := by decide +kernel
theorem dX11_shaven_38 : decode cX11_shaven 38 = .ok (.iconst 0, 1) := by decide +kernel
theorem dX11_shaven_39 : decode cX11_shaven 39 = .ok (.invokevirtual 253, 3) := by decide +kernel
theorem dX11_shaven_42 : decode cX11_shaven 42 = .ok (.ireturn, 1) := by decide +kernel
theorem dX11_stricter_0 : decode cX11_stricter 0 = .ok (.aload_n 0, 1) := by decide +kernel
theorem dX11_stricter_1 : decode cX11_stricter 1 = .ok (.iload_n 1, 1) := by decide +kernel
theorem dX11_stricter_2 : decode cX11_stricter 2 = .ok (.invokevirtual 156, 3) := by decide +kernel
theorem dX11_stricter_5 : decode cX11_stricter 5 = .ok (.ifCond .eq 13, 3) := by decide +kernel
theorem dX11_stricter_8 : decode cX11_stricter 8 = .ok (.iload_n 2, 1) := by decide +kernel
theorem dX11_stricter_9 : decode cX11_stricter 9 = .ok (.ifCond .lt 9, 3) := by decide +kernel
theorem dX11_stricter_12 : decode cX11_stricter 12 = .ok (.iload_n 2, 1) := by decide +kernel
theorem dX11_stricter_13 : decode cX11_stricter 13 = .ok (.bipush 9, 2) := by decide +kernel
theorem dX11_stricter_15 : decode cX11_stricter 15 = .ok (.if_icmp .le 5, 3) := by decide +kernel
theorem dX11_stricter_18 : decode cX11_stricter 18 = .ok (.iconst (-1), 1) := by decide +kernel
theorem dX11_stricter_19 : decode cX11_stricter 19 = .ok (.ireturn, 1) := by decide +kernel
theorem dX11_stricter_20 : decode cX11_stricter 20 = .ok (.iconst 0, 1) := by decide +kernel
theorem dX11_stricter_21 : decode cX11_stricter 21 = .ok (.istore_n 3, 1) := by decide +kernel
theorem dX11_stricter_22 : decode cX11_stricter 22 = .ok (.iconst 0, 1) := by decide +kernel
theorem dX11_stricter_23 : decode cX11_stricter 23 = .ok (.istore 4, 2) := by decide +kernel
theorem dX11_stricter_25 : decode cX11_stricter 25 = .ok (.iload 4, 2) := by decide +kernel
theorem dX11_stricter_27 : decode cX11_stricter 27 = .ok (.aload_n 0, 1) := by decide +kernel
theorem dX11_stricter_28 : decode cX11_stricter 28 = .ok (.getfield 19, 3) := by decide +kernel
theorem dX11_stricter_31 : decode cX11_stricter 31 = .ok (.getfield 172, 3) := by decide +kernel
theorem dX11_stricter_34 : decode cX11_stricter 34 = .ok (.if_icmp .ge 37, 3) := by decide +kernel
theorem dX11_stricter_37 : decode cX11_stricter 37 = .ok (.aload_n 0, 1) := by decide +kernel
theorem dX11_stricter_38 : decode cX11_stricter 38 = .ok (.getfield 57, 3) := by decide +kernel
theorem dX11_stricter_41 : decode cX11_stricter 41 = .ok (.aload_n 0, 1) := by decide +kernel
theorem dX11_stricter_42 : decode cX11_stricter 42 = .ok (.getfield 64, 3) := by decide +kernel
theorem dX11_stricter_45 : decode cX11_stricter 45 = .ok (.iload 4, 2) := by decide +kernel
theorem dX11_stricter_47 : decode cX11_stricter 47 = .ok (.iload_n 2, 1) := by decide +kernel
theorem dX11_stricter_48 : decode cX11_stricter 48 = .ok (.invokevirtual 253, 3) := by decide +kernel
theorem dX11_stricter_51 : decode cX11_stricter 51 = .ok (.iload_n 1, 1) := by decide +kernel
theorem dX11_stricter_52 : decode cX11_stricter 52 = .ok (.invokestatic 277, 3) := by decide +kernel
theorem dX11_stricter_55 : decode cX11_stricter 55 = .ok (.ifCond .eq 10, 3) := by decide +kernel
theorem dX11_stricter_58 : decode cX11_stricter 58 = .ok (.iload_n 3, 1) := by decide +kernel
theorem dX11_stricter_59 : decode cX11_stricter 59 = .ok (.iconst 1, 1) := by decide +kernel
theorem dX11_stricter_60 : decode cX11_stricter 60 = .ok (.iload 4, 2) := by decide +kernel
theorem dX11_stricter_62 : decode cX11_stricter 62 = .ok (.ishl, 1) := by decide +kernel
theorem dX11_stricter_63 : decode cX11_stricter 63 = .ok (.ior, 1) := by decide +kernel
theorem dX11_stricter_64 : decode cX11_stricter 64 = .ok (.istore_n 3, 1) := by decide +kernel
theorem dX11_stricter_65 : decode cX11_stricter 65 = .ok (.iinc 4 1, 3) := by decide +kernel
theorem dX11_stricter_68 : decode cX11_stricter 68 = .ok (.goto (-43), 3) := by decide +kernel
theorem dX11_stricter_71 : decode cX11_stricter 71 = .ok (.iload_n 3, 1) := by decide +kernel
theorem dX11_stricter_72 : decode cX11_stricter 72 = .ok (.ireturn, 1) := by decide +kernel
theorem dX11_need_0 : decode cX11_need 0 = .ok (.aload_n 0, 1) := by decide +kernel
theorem dX11_need_1 : decode cX11_need 1 = .ok (.iload_n 1, 1) := by decide +kernel
theorem dX11_need_2 : decode cX11_need 2 = .ok (.invokevirtual 133, 3) := by decide +kernel
theorem dX11_need_5 : decode cX11_need 5 = .ok (.ifCond .eq 20, 3) := by decide +kernel
theorem dX11_need_8 : decode cX11_need 8 = .ok (.aload_n 0, 1) := by decide +kernel
theorem dX11_need_9 : decode cX11_need 9 = .ok (.iload_n 2, 1) := by decide +kernel
theorem dX11_need_10 : decode cX11_need 10 = .ok (.invokevirtual 156, 3) := by decide +kernel
theorem dX11_need_13 : decode cX11_need 13 = .ok (.ifCond .eq 12, 3) := by decide +kernel
theorem dX11_need_16 : decode cX11_need 16 = .ok (.aload_n 0, 1) := by decide +kernel
theorem dX11_need_17 : decode cX11_need 17 = .ok (.iload_n 1, 1) := by decide +kernel
theorem dX11_need_18 : decode cX11_need 18 = .ok (.iload_n 2, 1) := by decide +kernel
theorem dX11_need_19 : decode cX11_need 19 = .ok (.invokevirtual 281, 3) := by decide +kernel
theorem dX11_need_22 : decode cX11_need 22 = .ok (.goto 4, 3) := by decide +kernel
theorem dX11_need_25 : decode cX11_need 25 = .ok (.iconst (-1), 1) := by decide +kernel
theorem dX11_need_26 : decode cX11_need 26 = .ok (.ireturn, 1) := by decide +kernel
theorem dX11_cheapest_0 : decode cX11_cheapest 0 = .ok (.aload_n 0, 1) := by decide +kernel
theorem dX11_cheapest_1 : decode cX11_cheapest 1 = .ok (.iload_n 1, 1) := by decide +kernel
theorem dX11_cheapest_2 : decode cX11_cheapest 2 = .ok (.invokevirtual 133, 3) := by decide +kernel
theorem dX11_cheapest_5 : decode cX11_cheapest 5 = .ok (.ifCond .ne 5, 3) := by decide +kernel
theorem dX11_cheapest_8 : decode cX11_cheapest 8 = .ok (.iconst (-1), 1) := by decide +kernel
theorem dX11_cheapest_9 : decode cX11_cheapest 9 = .ok (.ireturn, 1) := by decide +kernel
theorem dX11_cheapest_10 : decode cX11_cheapest 10 = .ok (.iconst (-1), 1) := by decide +kernel
theorem dX11_cheapest_11 : decode cX11_cheapest 11 = .ok (.istore_n 2, 1) := by decide +kernel
theorem dX11_cheapest_12 : decode cX11_cheapest 12 = .ok (.bipush 21, 2) := by decide +kernel
theorem dX11_cheapest_14 : decode cX11_cheapest 14 = .ok (.istore_n 3, 1) := by decide +kernel
theorem dX11_cheapest_15 : decode cX11_cheapest 15 = .ok (.iconst 0, 1) := by decide +kernel
theorem dX11_cheapest_16 : decode cX11_cheapest 16 = .ok (.istore 4, 2) := by decide +kernel
theorem dX11_cheapest_18 : decode cX11_cheapest 18 = .ok (.iload 4, 2) := by decide +kernel
theorem dX11_cheapest_20 : decode cX11_cheapest 20 = .ok (.aload_n 0, 1) := by decide +kernel
theorem dX11_cheapest_21 : decode cX11_cheapest 21 = .ok (.getfield 19, 3) := by decide +kernel
theorem dX11_cheapest_24 : decode cX11_cheapest 24 = .ok (.getfield 169, 3) := by decide +kernel
theorem dX11_cheapest_27 : decode cX11_cheapest 27 = .ok (.if_icmp .ge 35, 3) := by decide +kernel
theorem dX11_cheapest_30 : decode cX11_cheapest 30 = .ok (.aload_n 0, 1) := by decide +kernel
theorem dX11_cheapest_31 : decode cX11_cheapest 31 = .ok (.iload_n 1, 1) := by decide +kernel
theorem dX11_cheapest_32 : decode cX11_cheapest 32 = .ok (.iload 4, 2) := by decide +kernel
theorem dX11_cheapest_34 : decode cX11_cheapest 34 = .ok (.invokevirtual 281, 3) := by decide +kernel
theorem dX11_cheapest_37 : decode cX11_cheapest 37 = .ok (.istore 5, 2) := by decide +kernel
theorem dX11_cheapest_39 : decode cX11_cheapest 39 = .ok (.iload 5, 2) := by decide +kernel
theorem dX11_cheapest_41 : decode cX11_cheapest 41 = .ok (.ifCond .le 15, 3) := by decide +kernel
theorem dX11_cheapest_44 : decode cX11_cheapest 44 = .ok (.iload 5, 2) := by decide +kernel
theorem dX11_cheapest_46 : decode cX11_cheapest 46 = .ok (.iload_n 3, 1) := by decide +kernel
theorem dX11_cheapest_47 : decode cX11_cheapest 47 = .ok (.if_icmp .ge 9, 3) := by decide +kernel
theorem dX11_cheapest_50 : decode cX11_cheapest 50 = .ok (.iload 5, 2) := by decide +kernel
theorem dX11_cheapest_52 : decode cX11_cheapest 52 = .ok (.istore_n 3, 1) := by decide +kernel
theorem dX11_cheapest_53 : decode cX11_cheapest 53 = .ok (.iload 4, 2) := by decide +kernel
theorem dX11_cheapest_55 : decode cX11_cheapest 55 = .ok (.istore_n 2, 1) := by decide +kernel
theorem dX11_cheapest_56 : decode cX11_cheapest 56 = .ok (.iinc 4 1, 3) := by decide +kernel
theorem dX11_cheapest_59 : decode cX11_cheapest 59 = .ok (.goto (-41), 3) := by decide +kernel
theorem dX11_cheapest_62 : decode cX11_cheapest 62 = .ok (.iload_n 2, 1) := by decide +kernel
theorem dX11_cheapest_63 : decode cX11_cheapest 63 = .ok (.ireturn, 1) := by decide +kernel
theorem dX11_debt_0 : decode cX11_debt 0 = .ok (.aload_n 0, 1) := by decide +kernel
theorem dX11_debt_1 : decode cX11_debt 1 = .ok (.iload_n 1, 1) := by decide +kernel
theorem dX11_debt_2 : decode cX11_debt 2 = .ok (.invokevirtual 133, 3) := by decide +kernel
theorem dX11_debt_5 : decode cX11_debt 5 = .ok (.ifCond .eq 11, 3) := by decide +kernel
theorem dX11_debt_8 : decode cX11_debt 8 = .ok (.aload_n 0, 1) := by decide +kernel
theorem dX11_debt_9 : decode cX11_debt 9 = .ok (.iload_n 2, 1) := by decide +kernel
theorem dX11_debt_10 : decode cX11_debt 10 = .ok (.invokevirtual 156, 3) := by decide +kernel
theorem dX11_debt_13 : decode cX11_debt 13 = .ok (.ifCond .ne 5, 3) := by decide +kernel
theorem dX11_debt_16 : decode cX11_debt 16 = .ok (.iconst (-1), 1) := by decide +kernel
theorem dX11_debt_17 : decode cX11_debt 17 = .ok (.ireturn, 1) := by decide +kernel
theorem dX11_debt_18 : decode cX11_debt 18 = .ok (.aload_n 0, 1) := by decide +kernel
theorem dX11_debt_19 : decode cX11_debt 19 = .ok (.iload_n 1, 1) := by decide +kernel
theorem dX11_debt_20 : decode cX11_debt 20 = .ok (.iload_n 2, 1) := by decide +kernel
theorem dX11_debt_21 : decode cX11_debt 21 = .ok (.invokevirtual 281, 3) := by decide +kernel
theorem dX11_debt_24 : decode cX11_debt 24 = .ok (.istore_n 3, 1) := by decide +kernel
theorem dX11_debt_25 : decode cX11_debt 25 = .ok (.iload_n 3, 1) := by decide +kernel
theorem dX11_debt_26 : decode cX11_debt 26 = .ok (.iconst (-1), 1) := by decide +kernel
theorem dX11_debt_27 : decode cX11_debt 27 = .ok (.if_icmp .ne 5, 3) := by decide +kernel
theorem dX11_debt_30 : decode cX11_debt 30 = .ok (.iconst (-1), 1) := by decide +kernel
theorem dX11_debt_31 : decode cX11_debt 31 = .ok (.ireturn, 1) := by decide +kernel
theorem dX11_debt_32 : decode cX11_debt 32 = .ok (.iconst 0, 1) := by decide +kernel
theorem dX11_debt_33 : decode cX11_debt 33 = .ok (.iload_n 3, 1) := by decide +kernel
theorem dX11_debt_34 : decode cX11_debt 34 = .ok (.aload_n 0, 1) := by decide +kernel
theorem dX11_debt_35 : decode cX11_debt 35 = .ok (.getfield 19, 3) := by decide +kernel
theorem dX11_debt_38 : decode cX11_debt 38 = .ok (.getfield 178, 3) := by decide +kernel
theorem dX11_debt_41 : decode cX11_debt 41 = .ok (.imul, 1) := by decide +kernel
theorem dX11_debt_42 : decode cX11_debt 42 = .ok (.aload_n 0, 1) := by decide +kernel
theorem dX11_debt_43 : decode cX11_debt 43 = .ok (.getfield 64, 3) := by decide +kernel
theorem dX11_debt_46 : decode cX11_debt 46 = .ok (.getfield 150, 3) := by decide +kernel
theorem dX11_debt_49 : decode cX11_debt 49 = .ok (.iload_n 1, 1) := by decide +kernel
theorem dX11_debt_50 : decode cX11_debt 50 = .ok (.iaload, 1) := by decide +kernel
theorem dX11_debt_51 : decode cX11_debt 51 = .ok (.isub, 1) := by decide +kernel
theorem dX11_debt_52 : decode cX11_debt 52 = .ok (.invokestatic 284, 3) := by decide +kernel
theorem dX11_debt_55 : decode cX11_debt 55 = .ok (.ireturn, 1) := by decide +kernel
theorem dX11_fewestInches_0 : decode cX11_fewestInches 0 = .ok (.aload_n 0, 1) := by decide +kernel
theorem dX11_fewestInches_1 : decode cX11_fewestInches 1 = .ok (.getfield 19, 3) := by decide +kernel
theorem dX11_fewestInches_4 : decode cX11_fewestInches 4 = .ok (.getfield 137, 3) := by decide +kernel
theorem dX11_fewestInches_7 : decode cX11_fewestInches 7 = .ok (.iload_n 1, 1) := by decide +kernel
theorem dX11_fewestInches_8 : decode cX11_fewestInches 8 = .ok (.iaload, 1) := by decide +kernel
theorem dX11_fewestInches_9 : decode cX11_fewestInches 9 = .ok (.iconst 1, 1) := by decide +kernel
theorem dX11_fewestInches_10 : decode cX11_fewestInches 10 = .ok (.if_icmp .ne 7, 3) := by decide +kernel
theorem dX11_fewestInches_13 : decode cX11_fewestInches 13 = .ok (.iconst 0, 1) := by decide +kernel
theorem dX11_fewestInches_14 : decode cX11_fewestInches 14 = .ok (.goto 15, 3) := by decide +kernel
theorem dX11_fewestInches_17 : decode cX11_fewestInches 17 = .ok (.bipush 20, 2) := by decide +kernel
theorem dX11_fewestInches_19 : decode cX11_fewestInches 19 = .ok (.aload_n 0, 1) := by decide +kernel
theorem dX11_fewestInches_20 : decode cX11_fewestInches 20 = .ok (.getfield 64, 3) := by decide +kernel
theorem dX11_fewestInches_23 : decode cX11_fewestInches 23 = .ok (.getfield 147, 3) := by decide +kernel
theorem dX11_fewestInches_26 : decode cX11_fewestInches 26 = .ok (.iload_n 1, 1) := by decide +kernel
theorem dX11_fewestInches_27 : decode cX11_fewestInches 27 = .ok (.iaload, 1) := by decide +kernel
theorem dX11_fewestInches_28 : decode cX11_fewestInches 28 = .ok (.isub, 1) := by decide +kernel
theorem dX11_fewestInches_29 : decode cX11_fewestInches 29 = .ok (.istore_n 3, 1) := by decide +kernel
theorem dX11_fewestInches_30 : decode cX11_fewestInches 30 = .ok (.iconst 0, 1) := by decide +kernel
theorem dX11_fewestInches_31 : decode cX11_fewestInches 31 = .ok (.istore 4, 2) := by decide +kernel
theorem dX11_fewestInches_33 : decode cX11_fewestInches 33 = .ok (.iload 4, 2) := by decide +kernel
theorem dX11_fewestInches_35 : decode cX11_fewestInches 35 = .ok (.iload_n 3, 1) := by decide +kernel
theorem dX11_fewestInches_36 : decode cX11_fewestInches 36 = .ok (.if_icmp .gt 57, 3) := by decide +kernel
theorem dX11_fewestInches_39 : decode cX11_fewestInches 39 = .ok (.aload_n 0, 1) := by decide +kernel
theorem dX11_fewestInches_40 : decode cX11_fewestInches 40 = .ok (.getfield 68, 3) := by decide +kernel
theorem dX11_fewestInches_43 : decode cX11_fewestInches 43 = .ok (.aload_n 0, 1) := by decide +kernel
theorem dX11_fewestInches_44 : decode cX11_fewestInches 44 = .ok (.getfield 64, 3) := by decide +kernel
theorem dX11_fewestInches_47 : decode cX11_fewestInches 47 = .ok (.invokevirtual 221, 3) := by decide +kernel
theorem dX11_fewestInches_50 : decode cX11_fewestInches 50 = .ok (.aload_n 0, 1) := by decide +kernel
theorem dX11_fewestInches_51 : decode cX11_fewestInches 51 = .ok (.getfield 68, 3) := by decide +kernel
theorem dX11_fewestInches_54 : decode cX11_fewestInches 54 = .ok (.getfield 147, 3) := by decide +kernel
theorem dX11_fewestInches_57 : decode cX11_fewestInches 57 = .ok (.iload_n 1, 1) := by decide +kernel
theorem dX11_fewestInches_58 : decode cX11_fewestInches 58 = .ok (.dup2, 1) := by decide +kernel
theorem dX11_fewestInches_59 : decode cX11_fewestInches 59 = .ok (.iaload, 1) := by decide +kernel
theorem dX11_fewestInches_60 : decode cX11_fewestInches 60 = .ok (.iload 4, 2) := by decide +kernel
theorem dX11_fewestInches_62 : decode cX11_fewestInches 62 = .ok (.iadd, 1) := by decide +kernel
theorem dX11_fewestInches_63 : decode cX11_fewestInches 63 = .ok (.iastore, 1) := by decide +kernel
theorem dX11_fewestInches_64 : decode cX11_fewestInches 64 = .ok (.aload_n 0, 1) := by decide +kernel
theorem dX11_fewestInches_65 : decode cX11_fewestInches 65 = .ok (.getfield 57, 3) := by decide +kernel
theorem dX11_fewestInches_68 : decode cX11_fewestInches 68 = .ok (.aload_n 0, 1) := by decide +kernel
theorem dX11_fewestInches_69 : decode cX11_fewestInches 69 = .ok (.getfield 68, 3) := by decide +kernel
theorem dX11_fewestInches_72 : decode cX11_fewestInches 72 = .ok (.iload_n 1, 1) := by decide +kernel
theorem dX11_fewestInches_73 : decode cX11_fewestInches 73 = .ok (.iconst 0, 1) := by decide +kernel
theorem dX11_fewestInches_74 : decode cX11_fewestInches 74 = .ok (.invokevirtual 253, 3) := by decide +kernel
theorem dX11_fewestInches_77 : decode cX11_fewestInches 77 = .ok (.iload_n 2, 1) := by decide +kernel
theorem dX11_fewestInches_78 : decode cX11_fewestInches 78 = .ok (.invokestatic 277, 3) := by decide +kernel
theorem dX11_fewestInches_81 : decode cX11_fewestInches 81 = .ok (.ifCond .eq 6, 3) := by decide +kernel
theorem dX11_fewestInches_84 : decode cX11_fewestInches 84 = .ok (.iload 4, 2) := by decide +kernel
theorem dX11_fewestInches_86 : decode cX11_fewestInches 86 = .ok (.ireturn, 1) := by decide +kernel
theorem dX11_fewestInches_87 : decode cX11_fewestInches 87 = .ok (.iinc 4 1, 3) := by decide +kernel
theorem dX11_fewestInches_90 : decode cX11_fewestInches 90 = .ok (.goto (-57), 3) := by decide +kernel
theorem dX11_fewestInches_93 : decode cX11_fewestInches 93 = .ok (.iconst (-1), 1) := by decide +kernel
theorem dX11_fewestInches_94 : decode cX11_fewestInches 94 = .ok (.ireturn, 1) := by decide +kernel
theorem dX11_meeting_0 : decode cX11_meeting 0 = .ok (.iload_n 1, 1) := by decide +kernel
theorem dX11_meeting_1 : decode cX11_meeting 1 = .ok (.ifCond .eq 10, 3) := by decide +kernel
theorem dX11_meeting_4 : decode cX11_meeting 4 = .ok (.iload_n 1, 1) := by decide +kernel
theorem dX11_meeting_5 : decode cX11_meeting 5 = .ok (.iconst 1, 1) := by decide +kernel
theorem dX11_meeting_6 : decode cX11_meeting 6 = .ok (.if_icmp .eq 5, 3) := by decide +kernel
theorem dX11_meeting_9 : decode cX11_meeting 9 = .ok (.iconst (-1), 1) := by decide +kernel
theorem dX11_meeting_10 : decode cX11_meeting 10 = .ok (.ireturn, 1) := by decide +kernel
theorem dX11_meeting_11 : decode cX11_meeting 11 = .ok (.aload_n 0, 1) := by decide +kernel
theorem dX11_meeting_12 : decode cX11_meeting 12 = .ok (.getfield 57, 3) := by decide +kernel
theorem dX11_meeting_15 : decode cX11_meeting 15 = .ok (.getfield 287, 3) := by decide +kernel
theorem dX11_meeting_18 : decode cX11_meeting 18 = .ok (.iconst 0, 1) := by decide +kernel
theorem dX11_meeting_19 : decode cX11_meeting 19 = .ok (.invokestatic 290, 3) := by decide +kernel
theorem dX11_meeting_22 : decode cX11_meeting 22 = .ok (.iconst 0, 1) := by decide +kernel
theorem dX11_meeting_23 : decode cX11_meeting 23 = .ok (.istore_n 2, 1) := by decide +kernel
theorem dX11_meeting_24 : decode cX11_meeting 24 = .ok (.iload_n 2, 1) := by decide +kernel
theorem dX11_meeting_25 : decode cX11_meeting 25 = .ok (.aload_n 0, 1) := by decide +kernel
theorem dX11_meeting_26 : decode cX11_meeting 26 = .ok (.getfield 19, 3) := by decide +kernel
theorem dX11_meeting_29 : decode cX11_meeting 29 = .ok (.getfield 172, 3) := by decide +kernel
theorem dX11_meeting_32 : decode cX11_meeting 32 = .ok (.if_icmp .ge 35, 3) := by decide +kernel
theorem dX11_meeting_35 : decode cX11_meeting 35 = .ok (.aload_n 0, 1) := by decide +kernel
theorem dX11_meeting_36 : decode cX11_meeting 36 = .ok (.getfield 57, 3) := by decide +kernel
theorem dX11_meeting_39 : decode cX11_meeting 39 = .ok (.aload_n 0, 1) := by decide +kernel
theorem dX11_meeting_40 : decode cX11_meeting 40 = .ok (.getfield 64, 3) := by decide +kernel
theorem dX11_meeting_43 : decode cX11_meeting 43 = .ok (.iload_n 2, 1) := by decide +kernel
theorem dX11_meeting_44 : decode cX11_meeting 44 = .ok (.aload_n 0, 1) := by decide +kernel
theorem dX11_meeting_45 : decode cX11_meeting 45 = .ok (.getfield 19, 3) := by decide +kernel
theorem dX11_meeting_48 : decode cX11_meeting 48 = .ok (.invokevirtual 296, 3) := by decide +kernel
theorem dX11_meeting_51 : decode cX11_meeting 51 = .ok (.invokevirtual 265, 3) := by decide +kernel
theorem dX11_meeting_54 : decode cX11_meeting 54 = .ok (.aload_n 0, 1) := by decide +kernel
theorem dX11_meeting_55 : decode cX11_meeting 55 = .ok (.getfield 57, 3) := by decide +kernel
theorem dX11_meeting_58 : decode cX11_meeting 58 = .ok (.invokevirtual 299, 3) := by decide +kernel
theorem dX11_meeting_61 : decode cX11_meeting 61 = .ok (.iinc 2 1, 3) := by decide +kernel
theorem dX11_meeting_64 : decode cX11_meeting 64 = .ok (.goto (-40), 3) := by decide +kernel
theorem dX11_meeting_67 : decode cX11_meeting 67 = .ok (.iconst (-1), 1) := by decide +kernel
theorem dX11_meeting_68 : decode cX11_meeting 68 = .ok (.istore_n 2, 1) := by decide +kernel
theorem dX11_meeting_69 : decode cX11_meeting 69 = .ok (.iconst 0, 1) := by decide +kernel
theorem dX11_meeting_70 : decode cX11_meeting 70 = .ok (.istore_n 3, 1) := by decide +kernel
theorem dX11_meeting_71 : decode cX11_meeting 71 = .ok (.iload_n 3, 1) := by decide +kernel
theorem dX11_meeting_72 : decode cX11_meeting 72 = .ok (.aload_n 0, 1) := by decide +kernel
theorem dX11_meeting_73 : decode cX11_meeting 73 = .ok (.getfield 19, 3) := by decide +kernel
theorem dX11_meeting_76 : decode cX11_meeting 76 = .ok (.getfield 169, 3) := by decide +kernel
theorem dX11_meeting_79 : decode cX11_meeting 79 = .ok (.if_icmp .ge 47, 3) := by decide +kernel
theorem dX11_meeting_82 : decode cX11_meeting 82 = .ok (.aload_n 0, 1) := by decide +kernel
theorem dX11_meeting_83 : decode cX11_meeting 83 = .ok (.getfield 57, 3) := by decide +kernel
theorem dX11_meeting_86 : decode cX11_meeting 86 = .ok (.getfield 287, 3) := by decide +kernel
theorem dX11_meeting_89 : decode cX11_meeting 89 = .ok (.iload_n 3, 1) := by decide +kernel
theorem dX11_meeting_90 : decode cX11_meeting 90 = .ok (.iaload, 1) := by decide +kernel
theorem dX11_meeting_91 : decode cX11_meeting 91 = .ok (.istore 4, 2) := by decide +kernel
theorem dX11_meeting_93 : decode cX11_meeting 93 = .ok (.iload 4, 2) := by decide +kernel
theorem dX11_meeting_95 : decode cX11_meeting 95 = .ok (.iconst (-1), 1) := by decide +kernel
theorem dX11_meeting_96 : decode cX11_meeting 96 = .ok (.if_icmp .eq 24, 3) := by decide +kernel
theorem dX11_meeting_99 : decode cX11_meeting 99 = .ok (.iload_n 2, 1) := by decide +kernel
theorem dX11_meeting_100 : decode cX11_meeting 100 = .ok (.iconst (-1), 1) := by decide +kernel
theorem dX11_meeting_101 : decode cX11_meeting 101 = .ok (.if_icmp .eq 17, 3) := by decide +kernel
theorem dX11_meeting_104 : decode cX11_meeting 104 = .ok (.iload 4, 2) := by decide +kernel
theorem dX11_meeting_106 : decode cX11_meeting 106 = .ok (.aload_n 0, 1) := by decide +kernel
theorem dX11_meeting_107 : decode cX11_meeting 107 = .ok (.getfield 57, 3) := by decide +kernel
theorem dX11_meeting_110 : decode cX11_meeting 110 = .ok (.getfield 287, 3) := by decide +kernel
theorem dX11_meeting_113 : decode cX11_meeting 113 = .ok (.iload_n 2, 1) := by decide +kernel
theorem dX11_meeting_114 : decode cX11_meeting 114 = .ok (.iaload, 1) := by decide +kernel
theorem dX11_meeting_115 : decode cX11_meeting 115 = .ok (.if_icmp .ge 5, 3) := by decide +kernel
theorem dX11_meeting_118 : decode cX11_meeting 118 = .ok (.iload_n 3, 1) := by decide +kernel
theorem dX11_meeting_119 : decode cX11_meeting 119 = .ok (.istore_n 2, 1) := by decide +kernel
theorem dX11_meeting_120 : decode cX11_meeting 120 = .ok (.iinc 3 1, 3) := by decide +kernel
theorem dX11_meeting_123 : decode cX11_meeting 123 = .ok (.goto (-52), 3) := by decide +kernel
theorem dX11_meeting_126 : decode cX11_meeting 126 = .ok (.iload_n 2, 1) := by decide +kernel
theorem dX11_meeting_127 : decode cX11_meeting 127 = .ok (.iconst (-1), 1) := by decide +kernel
theorem dX11_meeting_128 : decode cX11_meeting 128 = .ok (.if_icmp .eq 8, 3) := by decide +kernel
theorem dX11_meeting_131 : decode cX11_meeting 131 = .ok (.iload_n 1, 1) := by decide +kernel
theorem dX11_meeting_132 : decode cX11_meeting 132 = .ok (.iconst 1, 1) := by decide +kernel
theorem dX11_meeting_133 : decode cX11_meeting 133 = .ok (.if_icmp .ne 7, 3) := by decide +kernel
theorem dX11_meeting_136 : decode cX11_meeting 136 = .ok (.iload_n 2, 1) := by decide +kernel
theorem dX11_meeting_137 : decode cX11_meeting 137 = .ok (.goto 12, 3) := by decide +kernel
theorem dX11_meeting_140 : decode cX11_meeting 140 = .ok (.aload_n 0, 1) := by decide +kernel
theorem dX11_meeting_141 : decode cX11_meeting 141 = .ok (.getfield 57, 3) := by decide +kernel
theorem dX11_meeting_144 : decode cX11_meeting 144 = .ok (.getfield 287, 3) := by decide +kernel
theorem dX11_meeting_147 : decode cX11_meeting 147 = .ok (.iload_n 2, 1) := by decide +kernel
theorem dX11_meeting_148 : decode cX11_meeting 148 = .ok (.iaload, 1) := by decide +kernel
theorem dX11_meeting_149 : decode cX11_meeting 149 = .ok (.ireturn, 1) := by decide +kernel
theorem dX11_speakers_0 : decode cX11_speakers 0 = .ok (.aload_n 0, 1) := by decide +kernel
theorem dX11_speakers_1 : decode cX11_speakers 1 = .ok (.iload_n 1, 1) := by decide +kernel
theorem dX11_speakers_2 : decode cX11_speakers 2 = .ok (.invokevirtual 133, 3) := by decide +kernel
theorem dX11_speakers_5 : decode cX11_speakers 5 = .ok (.ifCond .eq 24, 3) := by decide +kernel
theorem dX11_speakers_8 : decode cX11_speakers 8 = .ok (.aload_n 0, 1) := by decide +kernel
theorem dX11_speakers_9 : decode cX11_speakers 9 = .ok (.iload_n 2, 1) := by decide +kernel
theorem dX11_speakers_10 : decode cX11_speakers 10 = .ok (.invokevirtual 156, 3) := by decide +kernel
theorem dX11_speakers_13 : decode cX11_speakers 13 = .ok (.ifCond .eq 16, 3) := by decide +kernel
theorem dX11_speakers_16 : decode cX11_speakers 16 = .ok (.aload_n 0, 1) := by decide +kernel
theorem dX11_speakers_17 : decode cX11_speakers 17 = .ok (.getfield 19, 3) := by decide +kernel
theorem dX11_speakers_20 : decode cX11_speakers 20 = .ok (.getfield 137, 3) := by decide +kernel
theorem dX11_speakers_23 : decode cX11_speakers 23 = .ok (.iload_n 1, 1) := by decide +kernel
theorem dX11_speakers_24 : decode cX11_speakers 24 = .ok (.iaload, 1) := by decide +kernel
theorem dX11_speakers_25 : decode cX11_speakers 25 = .ok (.iconst 1, 1) := by decide +kernel
theorem dX11_speakers_26 : decode cX11_speakers 26 = .ok (.if_icmp .eq 5, 3) := by decide +kernel
theorem dX11_speakers_29 : decode cX11_speakers 29 = .ok (.iconst (-1), 1) := by decide +kernel
theorem dX11_speakers_30 : decode cX11_speakers 30 = .ok (.ireturn, 1) := by decide +kernel
theorem dX11_speakers_31 : decode cX11_speakers 31 = .ok (.aload_n 0, 1) := by decide +kernel
theorem dX11_speakers_32 : decode cX11_speakers 32 = .ok (.getfield 48, 3) := by decide +kernel
theorem dX11_speakers_35 : decode cX11_speakers 35 = .ok (.aload_n 0, 1) := by decide +kernel
theorem dX11_speakers_36 : decode cX11_speakers 36 = .ok (.getfield 64, 3) := by decide +kernel
theorem dX11_speakers_39 : decode cX11_speakers 39 = .ok (.aload_n 0, 1) := by decide +kernel
theorem dX11_speakers_40 : decode cX11_speakers 40 = .ok (.getfield 64, 3) := by decide +kernel
theorem dX11_speakers_43 : decode cX11_speakers 43 = .ok (.getfield 141, 3) := by decide +kernel
theorem dX11_speakers_46 : decode cX11_speakers 46 = .ok (.iload_n 1, 1) := by decide +kernel
theorem dX11_speakers_47 : decode cX11_speakers 47 = .ok (.iaload, 1) := by decide +kernel
theorem dX11_speakers_48 : decode cX11_speakers 48 = .ok (.iload_n 2, 1) := by decide +kernel
theorem dX11_speakers_49 : decode cX11_speakers 49 = .ok (.invokevirtual 302, 3) := by decide +kernel
theorem dX11_speakers_52 : decode cX11_speakers 52 = .ok (.ireturn, 1) := by decide +kernel
theorem dX11_strict_0 : decode cX11_strict 0 = .ok (.iconst (-1), 1) := by decide +kernel
theorem dX11_strict_1 : decode cX11_strict 1 = .ok (.istore_n 1, 1) := by decide +kernel
theorem dX11_strict_2 : decode cX11_strict 2 = .ok (.bipush 7, 2) := by decide +kernel
theorem dX11_strict_4 : decode cX11_strict 4 = .ok (.istore_n 2, 1) := by decide +kernel
theorem dX11_strict_5 : decode cX11_strict 5 = .ok (.iconst 0, 1) := by decide +kernel
theorem dX11_strict_6 : decode cX11_strict 6 = .ok (.istore_n 3, 1) := by decide +kernel
theorem dX11_strict_7 : decode cX11_strict 7 = .ok (.iload_n 3, 1) := by decide +kernel
theorem dX11_strict_8 : decode cX11_strict 8 = .ok (.aload_n 0, 1) := by decide +kernel
theorem dX11_strict_9 : decode cX11_strict 9 = .ok (.getfield 19, 3) := by decide +kernel
theorem dX11_strict_12 : decode cX11_strict 12 = .ok (.getfield 169, 3) := by decide +kernel
theorem dX11_strict_15 : decode cX11_strict 15 = .ok (.if_icmp .ge 37, 3) := by decide +kernel
theorem dX11_strict_18 : decode cX11_strict 18 = .ok (.aload_n 0, 1) := by decide +kernel
theorem dX11_strict_19 : decode cX11_strict 19 = .ok (.getfield 48, 3) := by decide +kernel
theorem dX11_strict_22 : decode cX11_strict 22 = .ok (.aload_n 0, 1) := by decide +kernel
theorem dX11_strict_23 : decode cX11_strict 23 = .ok (.getfield 64, 3) := by decide +kernel
theorem dX11_strict_26 : decode cX11_strict 26 = .ok (.iload_n 3, 1) := by decide +kernel
theorem dX11_strict_27 : decode cX11_strict 27 = .ok (.invokevirtual 165, 3) := by decide +kernel
theorem dX11_strict_30 : decode cX11_strict 30 = .ok (.invokestatic 305, 3) := by decide +kernel
theorem dX11_strict_33 : decode cX11_strict 33 = .ok (.istore 4, 2) := by decide +kernel
theorem dX11_strict_35 : decode cX11_strict 35 = .ok (.iload 4, 2) := by decide +kernel
theorem dX11_strict_37 : decode cX11_strict 37 = .ok (.iload_n 2, 1) := by decide +kernel
theorem dX11_strict_38 : decode cX11_strict 38 = .ok (.if_icmp .ge 8, 3) := by decide +kernel
theorem dX11_strict_41 : decode cX11_strict 41 = .ok (.iload 4, 2) := by decide +kernel
theorem dX11_strict_43 : decode cX11_strict 43 = .ok (.istore_n 2, 1) := by decide +kernel
theorem dX11_strict_44 : decode cX11_strict 44 = .ok (.iload_n 3, 1) := by decide +kernel
theorem dX11_strict_45 : decode cX11_strict 45 = .ok (.istore_n 1, 1) := by decide +kernel
theorem dX11_strict_46 : decode cX11_strict 46 = .ok (.iinc 3 1, 3) := by decide +kernel
theorem dX11_strict_49 : decode cX11_strict 49 = .ok (.goto (-42), 3) := by decide +kernel
theorem dX11_strict_52 : decode cX11_strict 52 = .ok (.iload_n 1, 1) := by decide +kernel
theorem dX11_strict_53 : decode cX11_strict 53 = .ok (.ireturn, 1) := by decide +kernel
theorem dX11_alike_0 : decode cX11_alike 0 = .ok (.iconst 0, 1) := by decide +kernel
theorem dX11_alike_1 : decode cX11_alike 1 = .ok (.istore_n 1, 1) := by decide +kernel
theorem dX11_alike_2 : decode cX11_alike 2 = .ok (.iconst 0, 1) := by decide +kernel
theorem dX11_alike_3 : decode cX11_alike 3 = .ok (.istore_n 2, 1) := by decide +kernel
theorem dX11_alike_4 : decode cX11_alike 4 = .ok (.iload_n 2, 1) := by decide +kernel
theorem dX11_alike_5 : decode cX11_alike 5 = .ok (.aload_n 0, 1) := by decide +kernel
theorem dX11_alike_6 : decode cX11_alike 6 = .ok (.getfield 19, 3) := by decide +kernel
theorem dX11_alike_9 : decode cX11_alike 9 = .ok (.getfield 169, 3) := by decide +kernel
theorem dX11_alike_12 : decode cX11_alike 12 = .ok (.if_icmp .ge 65, 3) := by decide +kernel
theorem dX11_alike_15 : decode cX11_alike 15 = .ok (.aload_n 0, 1) := by decide +kernel
theorem dX11_alike_16 : decode cX11_alike 16 = .ok (.getfield 48, 3) := by decide +kernel
theorem dX11_alike_19 : decode cX11_alike 19 = .ok (.aload_n 0, 1) := by decide +kernel
theorem dX11_alike_20 : decode cX11_alike 20 = .ok (.getfield 64, 3) := by decide +kernel
theorem dX11_alike_23 : decode cX11_alike 23 = .ok (.iload_n 2, 1) := by decide +kernel
theorem dX11_alike_24 : decode cX11_alike 24 = .ok (.invokevirtual 165, 3) := by decide +kernel
theorem dX11_alike_27 : decode cX11_alike 27 = .ok (.istore_n 3, 1) := by decide +kernel
theorem dX11_alike_28 : decode cX11_alike 28 = .ok (.iload_n 2, 1) := by decide +kernel
theorem dX11_alike_29 : decode cX11_alike 29 = .ok (.iconst 1, 1) := by decide +kernel
theorem dX11_alike_30 : decode cX11_alike 30 = .ok (.iadd, 1) := by decide +kernel
theorem dX11_alike_31 : decode cX11_alike 31 = .ok (.istore 4, 2) := by decide +kernel
theorem dX11_alike_33 : decode cX11_alike 33 = .ok (.iload 4, 2) := by decide +kernel
theorem dX11_alike_35 : decode cX11_alike 35 = .ok (.aload_n 0, 1) := by decide +kernel
theorem dX11_alike_36 : decode cX11_alike 36 = .ok (.getfield 19, 3) := by decide +kernel
theorem dX11_alike_39 : decode cX11_alike 39 = .ok (.getfield 169, 3) := by decide +kernel
theorem dX11_alike_42 : decode cX11_alike 42 = .ok (.if_icmp .ge 29, 3) := by decide +kernel
theorem dX11_alike_45 : decode cX11_alike 45 = .ok (.aload_n 0, 1) := by decide +kernel
theorem dX11_alike_46 : decode cX11_alike 46 = .ok (.getfield 48, 3) := by decide +kernel
theorem dX11_alike_49 : decode cX11_alike 49 = .ok (.aload_n 0, 1) := by decide +kernel
theorem dX11_alike_50 : decode cX11_alike 50 = .ok (.getfield 64, 3) := by decide +kernel
theorem dX11_alike_53 : decode cX11_alike 53 = .ok (.iload 4, 2) := by decide +kernel
theorem dX11_alike_55 : decode cX11_alike 55 = .ok (.invokevirtual 165, 3) := by decide +kernel
theorem dX11_alike_58 : decode cX11_alike 58 = .ok (.iload_n 3, 1) := by decide +kernel
theorem dX11_alike_59 : decode cX11_alike 59 = .ok (.if_icmp .ne 6, 3) := by decide +kernel
theorem dX11_alike_62 : decode cX11_alike 62 = .ok (.iinc 1 1, 3) := by decide +kernel
theorem dX11_alike_65 : decode cX11_alike 65 = .ok (.iinc 4 1, 3) := by decide +kernel
theorem dX11_alike_68 : decode cX11_alike 68 = .ok (.goto (-35), 3) := by decide +kernel
theorem dX11_alike_71 : decode cX11_alike 71 = .ok (.iinc 2 1, 3) := by decide +kernel
theorem dX11_alike_74 : decode cX11_alike 74 = .ok (.goto (-70), 3) := by decide +kernel
theorem dX11_alike_77 : decode cX11_alike 77 = .ok (.iload_n 1, 1) := by decide +kernel
theorem dX11_alike_78 : decode cX11_alike 78 = .ok (.ireturn, 1) := by decide +kernel
theorem dX11_see_0 : decode cX11_see 0 = .ok (.aload_n 0, 1) := by decide +kernel
theorem dX11_see_1 : decode cX11_see 1 = .ok (.iload_n 1, 1) := by decide +kernel
theorem dX11_see_2 : decode cX11_see 2 = .ok (.invokevirtual 156, 3) := by decide +kernel
theorem dX11_see_5 : decode cX11_see 5 = .ok (.ifCond .eq 15, 3) := by decide +kernel
theorem dX11_see_8 : decode cX11_see 8 = .ok (.aload_n 0, 1) := by decide +kernel
theorem dX11_see_9 : decode cX11_see 9 = .ok (.getfield 74, 3) := by decide +kernel
theorem dX11_see_12 : decode cX11_see 12 = .ok (.getfield 192, 3) := by decide +kernel
theorem dX11_see_15 : decode cX11_see 15 = .ok (.bipush 8, 2) := by decide +kernel
theorem dX11_see_17 : decode cX11_see 17 = .ok (.if_icmp .lt 5, 3) := by decide +kernel
theorem dX11_see_20 : decode cX11_see 20 = .ok (.iconst 0, 1) := by decide +kernel
theorem dX11_see_21 : decode cX11_see 21 = .ok (.ireturn, 1) := by decide +kernel
theorem dX11_see_22 : decode cX11_see 22 = .ok (.aload_n 0, 1) := by decide +kernel
theorem dX11_see_23 : decode cX11_see 23 = .ok (.getfield 19, 3) := by decide +kernel
theorem dX11_see_26 : decode cX11_see 26 = .ok (.iload_n 1, 1) := by decide +kernel
theorem dX11_see_27 : decode cX11_see 27 = .ok (.aload_n 0, 1) := by decide +kernel
theorem dX11_see_28 : decode cX11_see 28 = .ok (.getfield 64, 3) := by decide +kernel
theorem dX11_see_31 : decode cX11_see 31 = .ok (.getfield 181, 3) := by decide +kernel
theorem dX11_see_34 : decode cX11_see 34 = .ok (.invokevirtual 310, 3) := by decide +kernel
theorem dX11_see_37 : decode cX11_see 37 = .ok (.istore_n 3, 1) := by decide +kernel
theorem dX11_see_38 : decode cX11_see 38 = .ok (.aload_n 0, 1) := by decide +kernel
theorem dX11_see_39 : decode cX11_see 39 = .ok (.getfield 74, 3) := by decide +kernel
theorem dX11_see_42 : decode cX11_see 42 = .ok (.iload_n 2, 1) := by decide +kernel
theorem dX11_see_43 : decode cX11_see 43 = .ok (.ifCond .eq 7, 3) := by decide +kernel
theorem dX11_see_46 : decode cX11_see 46 = .ok (.iload_n 3, 1) := by decide +kernel
theorem dX11_see_47 : decode cX11_see 47 = .ok (.goto 6, 3) := by decide +kernel
theorem dX11_see_50 : decode cX11_see 50 = .ok (.iload_n 3, 1) := by decide +kernel
theorem dX11_see_51 : decode cX11_see 51 = .ok (.iconst (-1), 1) := by decide +kernel
theorem dX11_see_52 : decode cX11_see 52 = .ok (.ixor, 1) := by decide +kernel
theorem dX11_see_53 : decode cX11_see 53 = .ok (.invokevirtual 313, 3) := by decide +kernel
theorem dX11_see_56 : decode cX11_see 56 = .ok (.iconst 1, 1) := by decide +kernel
theorem dX11_see_57 : decode cX11_see 57 = .ok (.ireturn, 1) := by decide +kernel
theorem dX11_lengths_0 : decode cX11_lengths 0 = .ok (.aload_n 0, 1) := by decide +kernel
theorem dX11_lengths_1 : decode cX11_lengths 1 = .ok (.getfield 74, 3) := by decide +kernel
theorem dX11_lengths_4 : decode cX11_lengths 4 = .ok (.getfield 316, 3) := by decide +kernel
theorem dX11_lengths_7 : decode cX11_lengths 7 = .ok (.istore_n 2, 1) := by decide +kernel
theorem dX11_lengths_8 : decode cX11_lengths 8 = .ok (.iload_n 1, 1) := by decide +kernel
theorem dX11_lengths_9 : decode cX11_lengths 9 = .ok (.tableswitch 61 0 2 #[27, 32, 45], 27) := by decide +kernel
theorem dX11_lengths_36 : decode cX11_lengths 36 = .ok (.iload_n 2, 1) := by decide +kernel
theorem dX11_lengths_37 : decode cX11_lengths 37 = .ok (.invokestatic 305, 3) := by decide +kernel
theorem dX11_lengths_40 : decode cX11_lengths 40 = .ok (.ireturn, 1) := by decide +kernel
theorem dX11_lengths_41 : decode cX11_lengths 41 = .ok (.iload_n 2, 1) := by decide +kernel
theorem dX11_lengths_42 : decode cX11_lengths 42 = .ok (.ifCond .ne 7, 3) := by decide +kernel
theorem dX11_lengths_45 : decode cX11_lengths 45 = .ok (.iconst (-1), 1) := by decide +kernel
theorem dX11_lengths_46 : decode cX11_lengths 46 = .ok (.goto 7, 3) := by decide +kernel
theorem dX11_lengths_49 : decode cX11_lengths 49 = .ok (.iload_n 2, 1) := by decide +kernel
theorem dX11_lengths_50 : decode cX11_lengths 50 = .ok (.invokestatic 319, 3) := by decide +kernel
theorem dX11_lengths_53 : decode cX11_lengths 53 = .ok (.ireturn, 1) := by decide +kernel
theorem dX11_lengths_54 : decode cX11_lengths 54 = .ok (.iload_n 2, 1) := by decide +kernel
theorem dX11_lengths_55 : decode cX11_lengths 55 = .ok (.ifCond .ne 7, 3) := by decide +kernel
theorem dX11_lengths_58 : decode cX11_lengths 58 = .ok (.iconst (-1), 1) := by decide +kernel
theorem dX11_lengths_59 : decode cX11_lengths 59 = .ok (.goto 10, 3) := by decide +kernel
theorem dX11_lengths_62 : decode cX11_lengths 62 = .ok (.bipush 31, 2) := by decide +kernel
theorem dX11_lengths_64 : decode cX11_lengths 64 = .ok (.iload_n 2, 1) := by decide +kernel
theorem dX11_lengths_65 : decode cX11_lengths 65 = .ok (.invokestatic 322, 3) := by decide +kernel
theorem dX11_lengths_68 : decode cX11_lengths 68 = .ok (.isub, 1) := by decide +kernel
theorem dX11_lengths_69 : decode cX11_lengths 69 = .ok (.ireturn, 1) := by decide +kernel
theorem dX11_lengths_70 : decode cX11_lengths 70 = .ok (.iconst (-1), 1) := by decide +kernel
theorem dX11_lengths_71 : decode cX11_lengths 71 = .ok (.ireturn, 1) := by decide +kernel
theorem dX11_ask_0 : decode cX11_ask 0 = .ok (.aload_n 0, 1) := by decide +kernel
theorem dX11_ask_1 : decode cX11_ask 1 = .ok (.getfield 74, 3) := by decide +kernel
theorem dX11_ask_4 : decode cX11_ask 4 = .ok (.getfield 316, 3) := by decide +kernel
theorem dX11_ask_7 : decode cX11_ask 7 = .ok (.istore_n 1, 1) := by decide +kernel
theorem dX11_ask_8 : decode cX11_ask 8 = .ok (.iload_n 1, 1) := by decide +kernel
theorem dX11_ask_9 : decode cX11_ask 9 = .ok (.invokestatic 305, 3) := by decide +kernel
theorem dX11_ask_12 : decode cX11_ask 12 = .ok (.istore_n 2, 1) := by decide +kernel
theorem dX11_ask_13 : decode cX11_ask 13 = .ok (.iconst (-1), 1) := by decide +kernel
theorem dX11_ask_14 : decode cX11_ask 14 = .ok (.istore_n 3, 1) := by decide +kernel
theorem dX11_ask_15 : decode cX11_ask 15 = .ok (.iload_n 2, 1) := by decide +kernel
theorem dX11_ask_16 : decode cX11_ask 16 = .ok (.istore 4, 2) := by decide +kernel
theorem dX11_ask_18 : decode cX11_ask 18 = .ok (.iconst 0, 1) := by decide +kernel
theorem dX11_ask_19 : decode cX11_ask 19 = .ok (.istore 5, 2) := by decide +kernel
theorem dX11_ask_21 : decode cX11_ask 21 = .ok (.iload 5, 2) := by decide +kernel
theorem dX11_ask_23 : decode cX11_ask 23 = .ok (.aload_n 0, 1) := by decide +kernel
theorem dX11_ask_24 : decode cX11_ask 24 = .ok (.getfield 19, 3) := by decide +kernel
theorem dX11_ask_27 : decode cX11_ask 27 = .ok (.getfield 169, 3) := by decide +kernel
theorem dX11_ask_30 : decode cX11_ask 30 = .ok (.if_icmp .ge 57, 3) := by decide +kernel
theorem dX11_ask_33 : decode cX11_ask 33 = .ok (.iload_n 1, 1) := by decide +kernel
theorem dX11_ask_34 : decode cX11_ask 34 = .ok (.aload_n 0, 1) := by decide +kernel
theorem dX11_ask_35 : decode cX11_ask 35 = .ok (.getfield 19, 3) := by decide +kernel
theorem dX11_ask_38 : decode cX11_ask 38 = .ok (.iload 5, 2) := by decide +kernel
theorem dX11_ask_40 : decode cX11_ask 40 = .ok (.aload_n 0, 1) := by decide +kernel
theorem dX11_ask_41 : decode cX11_ask 41 = .ok (.getfield 64, 3) := by decide +kernel
theorem dX11_ask_44 : decode cX11_ask 44 = .ok (.getfield 181, 3) := by decide +kernel
theorem dX11_ask_47 : decode cX11_ask 47 = .ok (.invokevirtual 310, 3) := by decide +kernel
theorem dX11_ask_50 : decode cX11_ask 50 = .ok (.iand, 1) := by decide +kernel
theorem dX11_ask_51 : decode cX11_ask 51 = .ok (.invokestatic 305, 3) := by decide +kernel
theorem dX11_ask_54 : decode cX11_ask 54 = .ok (.istore 6, 2) := by decide +kernel
theorem dX11_ask_56 : decode cX11_ask 56 = .ok (.iload 6, 2) := by decide +kernel
theorem dX11_ask_58 : decode cX11_ask 58 = .ok (.iload_n 2, 1) := by decide +kernel
theorem dX11_ask_59 : decode cX11_ask 59 = .ok (.iload 6, 2) := by decide +kernel
theorem dX11_ask_61 : decode cX11_ask 61 = .ok (.isub, 1) := by decide +kernel
theorem dX11_ask_62 : decode cX11_ask 62 = .ok (.invokestatic 284, 3) := by decide +kernel
theorem dX11_ask_65 : decode cX11_ask 65 = .ok (.istore 7, 2) := by decide +kernel
theorem dX11_ask_67 : decode cX11_ask 67 = .ok (.iload 7, 2) := by decide +kernel
theorem dX11_ask_69 : decode cX11_ask 69 = .ok (.iload 4, 2) := by decide +kernel
theorem dX11_ask_71 : decode cX11_ask 71 = .ok (.if_icmp .ge 10, 3) := by decide +kernel
theorem dX11_ask_74 : decode cX11_ask 74 = .ok (.iload 7, 2) := by decide +kernel
theorem dX11_ask_76 : decode cX11_ask 76 = .ok (.istore 4, 2) := by decide +kernel
theorem dX11_ask_78 : decode cX11_ask 78 = .ok (.iload 5, 2) := by decide +kernel
theorem dX11_ask_80 : decode cX11_ask 80 = .ok (.istore_n 3, 1) := by decide +kernel
theorem dX11_ask_81 : decode cX11_ask 81 = .ok (.iinc 5 1, 3) := by decide +kernel
theorem dX11_ask_84 : decode cX11_ask 84 = .ok (.goto (-63), 3) := by decide +kernel
theorem dX11_ask_87 : decode cX11_ask 87 = .ok (.iload_n 3, 1) := by decide +kernel
theorem dX11_ask_88 : decode cX11_ask 88 = .ok (.ireturn, 1) := by decide +kernel
theorem dX11_isStake_0 : decode cX11_isStake 0 = .ok (.iload_n 0, 1) := by decide +kernel
theorem dX11_isStake_1 : decode cX11_isStake 1 = .ok (.ifCond .lt 13, 3) := by decide +kernel
theorem dX11_isStake_4 : decode cX11_isStake 4 = .ok (.iload_n 0, 1) := by decide +kernel
theorem dX11_isStake_5 : decode cX11_isStake 5 = .ok (.bipush 9, 2) := by decide +kernel
theorem dX11_isStake_7 : decode cX11_isStake 7 = .ok (.if_icmp .gt 7, 3) := by decide +kernel
theorem dX11_isStake_10 : decode cX11_isStake 10 = .ok (.iconst 1, 1) := by decide +kernel
theorem dX11_isStake_11 : decode cX11_isStake 11 = .ok (.goto 4, 3) := by decide +kernel
theorem dX11_isStake_14 : decode cX11_isStake 14 = .ok (.iconst 0, 1) := by decide +kernel
theorem dX11_isStake_15 : decode cX11_isStake 15 = .ok (.ireturn, 1) := by decide +kernel
theorem dX11_years_0 : decode cX11_years 0 = .ok (.iload_n 1, 1) := by decide +kernel
theorem dX11_years_1 : decode cX11_years 1 = .ok (.ifCond .lt 30, 3) := by decide +kernel
theorem dX11_years_4 : decode cX11_years 4 = .ok (.iload_n 1, 1) := by decide +kernel
theorem dX11_years_5 : decode cX11_years 5 = .ok (.sipush 9999, 3) := by decide +kernel
theorem dX11_years_8 : decode cX11_years 8 = .ok (.if_icmp .gt 23, 3) := by decide +kernel
theorem dX11_years_11 : decode cX11_years 11 = .ok (.iload_n 2, 1) := by decide +kernel
theorem dX11_years_12 : decode cX11_years 12 = .ok (.iconst 1, 1) := by decide +kernel
theorem dX11_years_13 : decode cX11_years 13 = .ok (.if_icmp .lt 18, 3) := by decide +kernel
theorem dX11_years_16 : decode cX11_years 16 = .ok (.iload_n 2, 1) := by decide +kernel
theorem dX11_years_17 : decode cX11_years 17 = .ok (.bipush 99, 2) := by decide +kernel
theorem dX11_years_19 : decode cX11_years 19 = .ok (.if_icmp .gt 12, 3) := by decide +kernel
theorem dX11_years_22 : decode cX11_years 22 = .ok (.iload_n 3, 1) := by decide +kernel
theorem dX11_years_23 : decode cX11_years 23 = .ok (.ifCond .lt 8, 3) := by decide +kernel
theorem dX11_years_26 : decode cX11_years 26 = .ok (.iload_n 3, 1) := by decide +kernel
theorem dX11_years_27 : decode cX11_years 27 = .ok (.iconst 2, 1) := by decide +kernel
theorem dX11_years_28 : decode cX11_years 28 = .ok (.if_icmp .le 5, 3) := by decide +kernel
theorem dX11_years_31 : decode cX11_years 31 = .ok (.iconst (-1), 1) := by decide +kernel
theorem dX11_years_32 : decode cX11_years 32 = .ok (.ireturn, 1) := by decide +kernel
theorem dX11_years_33 : decode cX11_years 33 = .ok (.aload_n 0, 1) := by decide +kernel
theorem dX11_years_34 : decode cX11_years 34 = .ok (.getfield 68, 3) := by decide +kernel
theorem dX11_years_37 : decode cX11_years 37 = .ok (.aload_n 0, 1) := by decide +kernel
theorem dX11_years_38 : decode cX11_years 38 = .ok (.getfield 64, 3) := by decide +kernel
theorem dX11_years_41 : decode cX11_years 41 = .ok (.invokevirtual 221, 3) := by decide +kernel
theorem dX11_years_44 : decode cX11_years 44 = .ok (.iload_n 1, 1) := by decide +kernel
theorem dX11_years_45 : decode cX11_years 45 = .ok (.i2l, 1) := by decide +kernel
theorem dX11_years_46 : decode cX11_years 46 = .ok (.lstore 4, 2) := by decide +kernel
theorem dX11_years_48 : decode cX11_years 48 = .ok (.iconst 0, 1) := by decide +kernel
theorem dX11_years_49 : decode cX11_years 49 = .ok (.istore 6, 2) := by decide +kernel
theorem dX11_years_51 : decode cX11_years 51 = .ok (.iconst 0, 1) := by decide +kernel
theorem dX11_years_52 : decode cX11_years 52 = .ok (.istore 7, 2) := by decide +kernel
theorem dX11_years_54 : decode cX11_years 54 = .ok (.iconst 0, 1) := by decide +kernel
theorem dX11_years_55 : decode cX11_years 55 = .ok (.istore 8, 2) := by decide +kernel
theorem dX11_years_57 : decode cX11_years 57 = .ok (.iload 8, 2) := by decide +kernel
theorem dX11_years_59 : decode cX11_years 59 = .ok (.iload_n 2, 1) := by decide +kernel
theorem dX11_years_60 : decode cX11_years 60 = .ok (.if_icmp .ge 152, 3) := by decide +kernel
theorem dX11_years_63 : decode cX11_years 63 = .ok (.iconst 0, 1) := by decide +kernel
theorem dX11_years_64 : decode cX11_years 64 = .ok (.istore 9, 2) := by decide +kernel
theorem dX11_years_66 : decode cX11_years 66 = .ok (.iload 9, 2) := by decide +kernel
theorem dX11_years_68 : decode cX11_years 68 = .ok (.aload_n 0, 1) := by decide +kernel
theorem dX11_years_69 : decode cX11_years 69 = .ok (.getfield 19, 3) := by decide +kernel
theorem dX11_years_72 : decode cX11_years 72 = .ok (.getfield 172, 3) := by decide +kernel
theorem dX11_years_75 : decode cX11_years 75 = .ok (.if_icmp .ge 120, 3) := by decide +kernel
theorem dX11_years_78 : decode cX11_years 78 = .ok (.lload 4, 2) := by decide +kernel
theorem dX11_years_80 : decode cX11_years 80 = .ok (.invokestatic 348, 3) := by decide +kernel
theorem dX11_years_83 : decode cX11_years 83 = .ok (.lstore 4, 2) := by decide +kernel
theorem dX11_years_85 : decode cX11_years 85 = .ok (.lload 4, 2) := by decide +kernel
theorem dX11_years_87 : decode cX11_years 87 = .ok (.aload_n 0, 1) := by decide +kernel
theorem dX11_years_88 : decode cX11_years 88 = .ok (.getfield 19, 3) := by decide +kernel
theorem dX11_years_91 : decode cX11_years 91 = .ok (.getfield 169, 3) := by decide +kernel
theorem dX11_years_94 : decode cX11_years 94 = .ok (.invokestatic 352, 3) := by decide +kernel
theorem dX11_years_97 : decode cX11_years 97 = .ok (.istore 10, 2) := by decide +kernel
theorem dX11_years_99 : decode cX11_years 99 = .ok (.aload_n 0, 1) := by decide +kernel
theorem dX11_years_100 : decode cX11_years 100 = .ok (.getfield 48, 3) := by decide +kernel
theorem dX11_years_103 : decode cX11_years 103 = .ok (.aload_n 0, 1) := by decide +kernel
theorem dX11_years_104 : decode cX11_years 104 = .ok (.getfield 68, 3) := by decide +kernel
theorem dX11_years_107 : decode cX11_years 107 = .ok (.iload 9, 2) := by decide +kernel
theorem dX11_years_109 : decode cX11_years 109 = .ok (.iload 10, 2) := by decide +kernel
theorem dX11_years_111 : decode cX11_years 111 = .ok (.invokevirtual 195, 3) := by decide +kernel
theorem dX11_years_114 : decode cX11_years 114 = .ok (.ifCond .eq 20, 3) := by decide +kernel
theorem dX11_years_117 : decode cX11_years 117 = .ok (.aload_n 0, 1) := by decide +kernel
theorem dX11_years_118 : decode cX11_years 118 = .ok (.getfield 68, 3) := by decide +kernel
theorem dX11_years_121 : decode cX11_years 121 = .ok (.iload 9, 2) := by decide +kernel
theorem dX11_years_123 : decode cX11_years 123 = .ok (.iload 10, 2) := by decide +kernel
theorem dX11_years_125 : decode cX11_years 125 = .ok (.invokevirtual 202, 3) := by decide +kernel
theorem dX11_years_128 : decode cX11_years 128 = .ok (.iinc 6 1, 3) := by decide +kernel
theorem dX11_years_131 : decode cX11_years 131 = .ok (.goto 32, 3) := by decide +kernel
theorem dX11_years_134 : decode cX11_years 134 = .ok (.aload_n 0, 1) := by decide +kernel
theorem dX11_years_135 : decode cX11_years 135 = .ok (.getfield 19, 3) := by decide +kernel
theorem dX11_years_138 : decode cX11_years 138 = .ok (.getfield 162, 3) := by decide +kernel
theorem dX11_years_141 : decode cX11_years 141 = .ok (.aload_n 0, 1) := by decide +kernel
theorem dX11_years_142 : decode cX11_years 142 = .ok (.getfield 68, 3) := by decide +kernel
theorem dX11_years_145 : decode cX11_years 145 = .ok (.getfield 141, 3) := by decide +kernel
theorem dX11_years_148 : decode cX11_years 148 = .ok (.iload 9, 2) := by decide +kernel
theorem dX11_years_150 : decode cX11_years 150 = .ok (.iaload, 1) := by decide +kernel
theorem dX11_years_151 : decode cX11_years 151 = .ok (.iaload, 1) := by decide +kernel
theorem dX11_years_152 : decode cX11_years 152 = .ok (.iload 10, 2) := by decide +kernel
theorem dX11_years_154 : decode cX11_years 154 = .ok (.invokestatic 277, 3) := by decide +kernel
theorem dX11_years_157 : decode cX11_years 157 = .ok (.ifCond .eq 6, 3) := by decide +kernel
theorem dX11_years_160 : decode cX11_years 160 = .ok (.iinc 7 1, 3) := by decide +kernel
theorem dX11_years_163 : decode cX11_years 163 = .ok (.lload 4, 2) := by decide +kernel
theorem dX11_years_165 : decode cX11_years 165 = .ok (.invokestatic 348, 3) := by decide +kernel
theorem dX11_years_168 : decode cX11_years 168 = .ok (.lstore 4, 2) := by decide +kernel
theorem dX11_years_170 : decode cX11_years 170 = .ok (.lload 4, 2) := by decide +kernel
theorem dX11_years_172 : decode cX11_years 172 = .ok (.bipush 20, 2) := by decide +kernel
theorem dX11_years_174 : decode cX11_years 174 = .ok (.invokestatic 352, 3) := by decide +kernel
theorem dX11_years_177 : decode cX11_years 177 = .ok (.ifCond .ne 12, 3) := by decide +kernel
theorem dX11_years_180 : decode cX11_years 180 = .ok (.aload_n 0, 1) := by decide +kernel
theorem dX11_years_181 : decode cX11_years 181 = .ok (.getfield 68, 3) := by decide +kernel
theorem dX11_years_184 : decode cX11_years 184 = .ok (.iload 9, 2) := by decide +kernel
theorem dX11_years_186 : decode cX11_years 186 = .ok (.invokevirtual 213, 3) := by decide +kernel
theorem dX11_years_189 : decode cX11_years 189 = .ok (.iinc 9 1, 3) := by decide +kernel
theorem dX11_years_192 : decode cX11_years 192 = .ok (.goto (-126), 3) := by decide +kernel
theorem dX11_years_195 : decode cX11_years 195 = .ok (.aload_n 0, 1) := by decide +kernel
theorem dX11_years_196 : decode cX11_years 196 = .ok (.getfield 48, 3) := by decide +kernel
theorem dX11_years_199 : decode cX11_years 199 = .ok (.aload_n 0, 1) := by decide +kernel
theorem dX11_years_200 : decode cX11_years 200 = .ok (.getfield 68, 3) := by decide +kernel
theorem dX11_years_203 : decode cX11_years 203 = .ok (.invokevirtual 217, 3) := by decide +kernel
theorem dX11_years_206 : decode cX11_years 206 = .ok (.iinc 8 1, 3) := by decide +kernel
theorem dX11_years_209 : decode cX11_years 209 = .ok (.goto (-152), 3) := by decide +kernel
theorem dX11_years_212 : decode cX11_years 212 = .ok (.iload_n 3, 1) := by decide +kernel
theorem dX11_years_213 : decode cX11_years 213 = .ok (.iconst 2, 1) := by decide +kernel
theorem dX11_years_214 : decode cX11_years 214 = .ok (.if_icmp .ne 18, 3) := by decide +kernel
theorem dX11_years_217 : decode cX11_years 217 = .ok (.aload_n 0, 1) := by decide +kernel
theorem dX11_years_218 : decode cX11_years 218 = .ok (.getfield 68, 3) := by decide +kernel
theorem dX11_years_221 : decode cX11_years 221 = .ok (.aload_n 0, 1) := by decide +kernel
theorem dX11_years_222 : decode cX11_years 222 = .ok (.getfield 19, 3) := by decide +kernel
theorem dX11_years_225 : decode cX11_years 225 = .ok (.getfield 172, 3) := by decide +kernel
theorem dX11_years_228 : decode cX11_years 228 = .ok (.invokevirtual 184, 3) := by decide +kernel
theorem dX11_years_231 : decode cX11_years 231 = .ok (.ireturn, 1) := by decide +kernel
theorem dX11_years_232 : decode cX11_years 232 = .ok (.iload_n 3, 1) := by decide +kernel
theorem dX11_years_233 : decode cX11_years 233 = .ok (.ifCond .ne 8, 3) := by decide +kernel
theorem dX11_years_236 : decode cX11_years 236 = .ok (.iload 6, 2) := by decide +kernel
theorem dX11_years_238 : decode cX11_years 238 = .ok (.goto 5, 3) := by decide +kernel
theorem dX11_years_241 : decode cX11_years 241 = .ok (.iload 7, 2) := by decide +kernel
theorem dX11_years_243 : decode cX11_years 243 = .ok (.ireturn, 1) := by decide +kernel
theorem dX11_nextDraw_0 : decode cX11_nextDraw 0 = .ok (.lload_n 0, 1) := by decide +kernel
theorem dX11_nextDraw_1 : decode cX11_nextDraw 1 = .ok (.ldc2_w 356, 3) := by decide +kernel
theorem dX11_nextDraw_4 : decode cX11_nextDraw 4 = .ok (.lmul, 1) := by decide +kernel
theorem dX11_nextDraw_5 : decode cX11_nextDraw 5 = .ok (.ldc2_w 358, 3) := by decide +kernel
theorem dX11_nextDraw_8 : decode cX11_nextDraw 8 = .ok (.ladd, 1) := by decide +kernel
theorem dX11_nextDraw_9 : decode cX11_nextDraw 9 = .ok (.ldc2_w 360, 3) := by decide +kernel
theorem dX11_nextDraw_12 : decode cX11_nextDraw 12 = .ok (.lrem, 1) := by decide +kernel
theorem dX11_nextDraw_13 : decode cX11_nextDraw 13 = .ok (.lreturn, 1) := by decide +kernel
theorem dX11_below_0 : decode cX11_below 0 = .ok (.iload_n 2, 1) := by decide +kernel
theorem dX11_below_1 : decode cX11_below 1 = .ok (.iconst 1, 1) := by decide +kernel
theorem dX11_below_2 : decode cX11_below 2 = .ok (.if_icmp .ge 7, 3) := by decide +kernel
theorem dX11_below_5 : decode cX11_below 5 = .ok (.iconst 0, 1) := by decide +kernel
theorem dX11_below_6 : decode cX11_below 6 = .ok (.goto 12, 3) := by decide +kernel
theorem dX11_below_9 : decode cX11_below 9 = .ok (.lload_n 0, 1) := by decide +kernel
theorem dX11_below_10 : decode cX11_below 10 = .ok (.ldc2_w 362, 3) := by decide +kernel
theorem dX11_below_13 : decode cX11_below 13 = .ok (.ldiv, 1) := by decide +kernel
theorem dX11_below_14 : decode cX11_below 14 = .ok (.iload_n 2, 1) := by decide +kernel
theorem dX11_below_15 : decode cX11_below 15 = .ok (.i2l, 1) := by decide +kernel
theorem dX11_below_16 : decode cX11_below 16 = .ok (.lrem, 1) := by decide +kernel
theorem dX11_below_17 : decode cX11_below 17 = .ok (.l2i, 1) := by decide +kernel
theorem dX11_below_18 : decode cX11_below 18 = .ok (.ireturn, 1) := by decide +kernel
theorem dX11_has_0 : decode cX11_has 0 = .ok (.iload_n 0, 1) := by decide +kernel
theorem dX11_has_1 : decode cX11_has 1 = .ok (.iload_n 1, 1) := by decide +kernel
theorem dX11_has_2 : decode cX11_has 2 = .ok (.ishr, 1) := by decide +kernel
theorem dX11_has_3 : decode cX11_has 3 = .ok (.iconst 1, 1) := by decide +kernel
theorem dX11_has_4 : decode cX11_has 4 = .ok (.iand, 1) := by decide +kernel
theorem dX11_has_5 : decode cX11_has 5 = .ok (.ifCond .eq 7, 3) := by decide +kernel
theorem dX11_has_8 : decode cX11_has 8 = .ok (.iconst 1, 1) := by decide +kernel
theorem dX11_has_9 : decode cX11_has 9 = .ok (.goto 4, 3) := by decide +kernel
theorem dX11_has_12 : decode cX11_has 12 = .ok (.iconst 0, 1) := by decide +kernel
theorem dX11_has_13 : decode cX11_has 13 = .ok (.ireturn, 1) := by decide +kernel
theorem dJ6_numberOfLeadingZeros_0f7a4_0 : decode cJ6_numberOfLeadingZeros_0f7a4 0 = .ok (.iload_n 0, 1) := by decide +kernel
theorem dJ6_numberOfLeadingZeros_0f7a4_1 : decode cJ6_numberOfLeadingZeros_0f7a4 1 = .ok (.ifCond .gt 14, 3) := by decide +kernel
theorem dJ6_numberOfLeadingZeros_0f7a4_4 : decode cJ6_numberOfLeadingZeros_0f7a4 4 = .ok (.iload_n 0, 1) := by decide +kernel
theorem dJ6_numberOfLeadingZeros_0f7a4_5 : decode cJ6_numberOfLeadingZeros_0f7a4 5 = .ok (.ifCond .ne 8, 3) := by decide +kernel
theorem dJ6_numberOfLeadingZeros_0f7a4_8 : decode cJ6_numberOfLeadingZeros_0f7a4 8 = .ok (.bipush 32, 2) := by decide +kernel
theorem dJ6_numberOfLeadingZeros_0f7a4_10 : decode cJ6_numberOfLeadingZeros_0f7a4 10 = .ok (.goto 4, 3) := by decide +kernel
theorem dJ6_numberOfLeadingZeros_0f7a4_13 : decode cJ6_numberOfLeadingZeros_0f7a4 13 = .ok (.iconst 0, 1) := by decide +kernel
theorem dJ6_numberOfLeadingZeros_0f7a4_14 : decode cJ6_numberOfLeadingZeros_0f7a4 14 = .ok (.ireturn, 1) := by decide +kernel
theorem dJ6_numberOfLeadingZeros_0f7a4_15 : decode cJ6_numberOfLeadingZeros_0f7a4 15 = .ok (.bipush 31, 2) := by decide +kernel
theorem dJ6_numberOfLeadingZeros_0f7a4_17 : decode cJ6_numberOfLeadingZeros_0f7a4 17 = .ok (.istore_n 1, 1) := by decide +kernel
theorem dJ6_numberOfLeadingZeros_0f7a4_18 : decode cJ6_numberOfLeadingZeros_0f7a4 18 = .ok (.iload_n 0, 1) := by decide +kernel
theorem dJ6_numberOfLeadingZeros_0f7a4_19 : decode cJ6_numberOfLeadingZeros_0f7a4 19 = .ok (.ldc_w 264, 3) := by decide +kernel
theorem dJ6_numberOfLeadingZeros_0f7a4_22 : decode cJ6_numberOfLeadingZeros_0f7a4 22 = .ok (.if_icmp .lt 11, 3) := by decide +kernel
theorem dJ6_numberOfLeadingZeros_0f7a4_25 : decode cJ6_numberOfLeadingZeros_0f7a4 25 = .ok (.iinc 1 (-16), 3) := by decide +kernel
theorem dJ6_numberOfLeadingZeros_0f7a4_28 : decode cJ6_numberOfLeadingZeros_0f7a4 28 = .ok (.iload_n 0, 1) := by decide +kernel
theorem dJ6_numberOfLeadingZeros_0f7a4_29 : decode cJ6_numberOfLeadingZeros_0f7a4 29 = .ok (.bipush 16, 2) := by decide +kernel
theorem dJ6_numberOfLeadingZeros_0f7a4_31 : decode cJ6_numberOfLeadingZeros_0f7a4 31 = .ok (.iushr, 1) := by decide +kernel
theorem dJ6_numberOfLeadingZeros_0f7a4_32 : decode cJ6_numberOfLeadingZeros_0f7a4 32 = .ok (.istore_n 0, 1) := by decide +kernel
theorem dJ6_numberOfLeadingZeros_0f7a4_33 : decode cJ6_numberOfLeadingZeros_0f7a4 33 = .ok (.iload_n 0, 1) := by decide +kernel
theorem dJ6_numberOfLeadingZeros_0f7a4_34 : decode cJ6_numberOfLeadingZeros_0f7a4 34 = .ok (.sipush 256, 3) := by decide +kernel
theorem dJ6_numberOfLeadingZeros_0f7a4_37 : decode cJ6_numberOfLeadingZeros_0f7a4 37 = .ok (.if_icmp .lt 11, 3) := by decide +kernel
theorem dJ6_numberOfLeadingZeros_0f7a4_40 : decode cJ6_numberOfLeadingZeros_0f7a4 40 = .ok (.iinc 1 (-8), 3) := by decide +kernel
theorem dJ6_numberOfLeadingZeros_0f7a4_43 : decode cJ6_numberOfLeadingZeros_0f7a4 43 = .ok (.iload_n 0, 1) := by decide +kernel
theorem dJ6_numberOfLeadingZeros_0f7a4_44 : decode cJ6_numberOfLeadingZeros_0f7a4 44 = .ok (.bipush 8, 2) := by decide +kernel
theorem dJ6_numberOfLeadingZeros_0f7a4_46 : decode cJ6_numberOfLeadingZeros_0f7a4 46 = .ok (.iushr, 1) := by decide +kernel
theorem dJ6_numberOfLeadingZeros_0f7a4_47 : decode cJ6_numberOfLeadingZeros_0f7a4 47 = .ok (.istore_n 0, 1) := by decide +kernel
theorem dJ6_numberOfLeadingZeros_0f7a4_48 : decode cJ6_numberOfLeadingZeros_0f7a4 48 = .ok (.iload_n 0, 1) := by decide +kernel
theorem dJ6_numberOfLeadingZeros_0f7a4_49 : decode cJ6_numberOfLeadingZeros_0f7a4 49 = .ok (.bipush 16, 2) := by decide +kernel
theorem dJ6_numberOfLeadingZeros_0f7a4_51 : decode cJ6_numberOfLeadingZeros_0f7a4 51 = .ok (.if_icmp .lt 10, 3) := by decide +kernel
theorem dJ6_numberOfLeadingZeros_0f7a4_54 : decode cJ6_numberOfLeadingZeros_0f7a4 54 = .ok (.iinc 1 (-4), 3) := by decide +kernel
theorem dJ6_numberOfLeadingZeros_0f7a4_57 : decode cJ6_numberOfLeadingZeros_0f7a4 57 = .ok (.iload_n 0, 1) := by decide +kernel
theorem dJ6_numberOfLeadingZeros_0f7a4_58 : decode cJ6_numberOfLeadingZeros_0f7a4 58 = .ok (.iconst 4, 1) := by decide +kernel
theorem dJ6_numberOfLeadingZeros_0f7a4_59 : decode cJ6_numberOfLeadingZeros_0f7a4 59 = .ok (.iushr, 1) := by decide +kernel
theorem dJ6_numberOfLeadingZeros_0f7a4_60 : decode cJ6_numberOfLeadingZeros_0f7a4 60 = .ok (.istore_n 0, 1) := by decide +kernel
theorem dJ6_numberOfLeadingZeros_0f7a4_61 : decode cJ6_numberOfLeadingZeros_0f7a4 61 = .ok (.iload_n 0, 1) := by decide +kernel
theorem dJ6_numberOfLeadingZeros_0f7a4_62 : decode cJ6_numberOfLeadingZeros_0f7a4 62 = .ok (.iconst 4, 1) := by decide +kernel
theorem dJ6_numberOfLeadingZeros_0f7a4_63 : decode cJ6_numberOfLeadingZeros_0f7a4 63 = .ok (.if_icmp .lt 10, 3) := by decide +kernel
theorem dJ6_numberOfLeadingZeros_0f7a4_66 : decode cJ6_numberOfLeadingZeros_0f7a4 66 = .ok (.iinc 1 (-2), 3) := by decide +kernel
theorem dJ6_numberOfLeadingZeros_0f7a4_69 : decode cJ6_numberOfLeadingZeros_0f7a4 69 = .ok (.iload_n 0, 1) := by decide +kernel
theorem dJ6_numberOfLeadingZeros_0f7a4_70 : decode cJ6_numberOfLeadingZeros_0f7a4 70 = .ok (.iconst 2, 1) := by decide +kernel
theorem dJ6_numberOfLeadingZeros_0f7a4_71 : decode cJ6_numberOfLeadingZeros_0f7a4 71 = .ok (.iushr, 1) := by decide +kernel
theorem dJ6_numberOfLeadingZeros_0f7a4_72 : decode cJ6_numberOfLeadingZeros_0f7a4 72 = .ok (.istore_n 0, 1) := by decide +kernel
theorem dJ6_numberOfLeadingZeros_0f7a4_73 : decode cJ6_numberOfLeadingZeros_0f7a4 73 = .ok (.iload_n 1, 1) := by decide +kernel
theorem dJ6_numberOfLeadingZeros_0f7a4_74 : decode cJ6_numberOfLeadingZeros_0f7a4 74 = .ok (.iload_n 0, 1) := by decide +kernel
theorem dJ6_numberOfLeadingZeros_0f7a4_75 : decode cJ6_numberOfLeadingZeros_0f7a4 75 = .ok (.iconst 1, 1) := by decide +kernel
theorem dJ6_numberOfLeadingZeros_0f7a4_76 : decode cJ6_numberOfLeadingZeros_0f7a4 76 = .ok (.iushr, 1) := by decide +kernel
theorem dJ6_numberOfLeadingZeros_0f7a4_77 : decode cJ6_numberOfLeadingZeros_0f7a4 77 = .ok (.isub, 1) := by decide +kernel
theorem dJ6_numberOfLeadingZeros_0f7a4_78 : decode cJ6_numberOfLeadingZeros_0f7a4 78 = .ok (.ireturn, 1) := by decide +kernel
theorem dJ6_numberOfTrailingZeros_0f7a4_0 : decode cJ6_numberOfTrailingZeros_0f7a4 0 = .ok (.iload_n 0, 1) := by decide +kernel
theorem dJ6_numberOfTrailingZeros_0f7a4_1 : decode cJ6_numberOfTrailingZeros_0f7a4 1 = .ok (.iconst (-1), 1) := by decide +kernel
theorem dJ6_numberOfTrailingZeros_0f7a4_2 : decode cJ6_numberOfTrailingZeros_0f7a4 2 = .ok (.ixor, 1) := by decide +kernel
theorem dJ6_numberOfTrailingZeros_0f7a4_3 : decode cJ6_numberOfTrailingZeros_0f7a4 3 = .ok (.iload_n 0, 1) := by decide +kernel
theorem dJ6_numberOfTrailingZeros_0f7a4_4 : decode cJ6_numberOfTrailingZeros_0f7a4 4 = .ok (.iconst 1, 1) := by decide +kernel
theorem dJ6_numberOfTrailingZeros_0f7a4_5 : decode cJ6_numberOfTrailingZeros_0f7a4 5 = .ok (.isub, 1) := by decide +kernel
theorem dJ6_numberOfTrailingZeros_0f7a4_6 : decode cJ6_numberOfTrailingZeros_0f7a4 6 = .ok (.iand, 1) := by decide +kernel
theorem dJ6_numberOfTrailingZeros_0f7a4_7 : decode cJ6_numberOfTrailingZeros_0f7a4 7 = .ok (.istore_n 0, 1) := by decide +kernel
theorem dJ6_numberOfTrailingZeros_0f7a4_8 : decode cJ6_numberOfTrailingZeros_0f7a4 8 = .ok (.iload_n 0, 1) := by decide +kernel
theorem dJ6_numberOfTrailingZeros_0f7a4_9 : decode cJ6_numberOfTrailingZeros_0f7a4 9 = .ok (.ifCond .gt 8, 3) := by decide +kernel
theorem dJ6_numberOfTrailingZeros_0f7a4_12 : decode cJ6_numberOfTrailingZeros_0f7a4 12 = .ok (.iload_n 0, 1) := by decide +kernel
theorem dJ6_numberOfTrailingZeros_0f7a4_13 : decode cJ6_numberOfTrailingZeros_0f7a4 13 = .ok (.bipush 32, 2) := by decide +kernel
theorem dJ6_numberOfTrailingZeros_0f7a4_15 : decode cJ6_numberOfTrailingZeros_0f7a4 15 = .ok (.iand, 1) := by decide +kernel
theorem dJ6_numberOfTrailingZeros_0f7a4_16 : decode cJ6_numberOfTrailingZeros_0f7a4 16 = .ok (.ireturn, 1) := by decide +kernel
theorem dJ6_numberOfTrailingZeros_0f7a4_17 : decode cJ6_numberOfTrailingZeros_0f7a4 17 = .ok (.iconst 1, 1) := by decide +kernel
theorem dJ6_numberOfTrailingZeros_0f7a4_18 : decode cJ6_numberOfTrailingZeros_0f7a4 18 = .ok (.istore_n 1, 1) := by decide +kernel
theorem dJ6_numberOfTrailingZeros_0f7a4_19 : decode cJ6_numberOfTrailingZeros_0f7a4 19 = .ok (.iload_n 0, 1) := by decide +kernel
theorem dJ6_numberOfTrailingZeros_0f7a4_20 : decode cJ6_numberOfTrailingZeros_0f7a4 20 = .ok (.ldc_w 264, 3) := by decide +kernel
theorem dJ6_numberOfTrailingZeros_0f7a4_23 : decode cJ6_numberOfTrailingZeros_0f7a4 23 = .ok (.if_icmp .le 11, 3) := by decide +kernel
theorem dJ6_numberOfTrailingZeros_0f7a4_26 : decode cJ6_numberOfTrailingZeros_0f7a4 26 = .ok (.iinc 1 16, 3) := by decide +kernel
theorem dJ6_numberOfTrailingZeros_0f7a4_29 : decode cJ6_numberOfTrailingZeros_0f7a4 29 = .ok (.iload_n 0, 1) := by decide +kernel
theorem dJ6_numberOfTrailingZeros_0f7a4_30 : decode cJ6_numberOfTrailingZeros_0f7a4 30 = .ok (.bipush 16, 2) := by decide +kernel
theorem dJ6_numberOfTrailingZeros_0f7a4_32 : decode cJ6_numberOfTrailingZeros_0f7a4 32 = .ok (.iushr, 1) := by decide +kernel
theorem dJ6_numberOfTrailingZeros_0f7a4_33 : decode cJ6_numberOfTrailingZeros_0f7a4 33 = .ok (.istore_n 0, 1) := by decide +kernel
theorem dJ6_numberOfTrailingZeros_0f7a4_34 : decode cJ6_numberOfTrailingZeros_0f7a4 34 = .ok (.iload_n 0, 1) := by decide +kernel
theorem dJ6_numberOfTrailingZeros_0f7a4_35 : decode cJ6_numberOfTrailingZeros_0f7a4 35 = .ok (.sipush 256, 3) := by decide +kernel
theorem dJ6_numberOfTrailingZeros_0f7a4_38 : decode cJ6_numberOfTrailingZeros_0f7a4 38 = .ok (.if_icmp .le 11, 3) := by decide +kernel
theorem dJ6_numberOfTrailingZeros_0f7a4_41 : decode cJ6_numberOfTrailingZeros_0f7a4 41 = .ok (.iinc 1 8, 3) := by decide +kernel
theorem dJ6_numberOfTrailingZeros_0f7a4_44 : decode cJ6_numberOfTrailingZeros_0f7a4 44 = .ok (.iload_n 0, 1) := by decide +kernel
theorem dJ6_numberOfTrailingZeros_0f7a4_45 : decode cJ6_numberOfTrailingZeros_0f7a4 45 = .ok (.bipush 8, 2) := by decide +kernel
theorem dJ6_numberOfTrailingZeros_0f7a4_47 : decode cJ6_numberOfTrailingZeros_0f7a4 47 = .ok (.iushr, 1) := by decide +kernel
theorem dJ6_numberOfTrailingZeros_0f7a4_48 : decode cJ6_numberOfTrailingZeros_0f7a4 48 = .ok (.istore_n 0, 1) := by decide +kernel
theorem dJ6_numberOfTrailingZeros_0f7a4_49 : decode cJ6_numberOfTrailingZeros_0f7a4 49 = .ok (.iload_n 0, 1) := by decide +kernel
theorem dJ6_numberOfTrailingZeros_0f7a4_50 : decode cJ6_numberOfTrailingZeros_0f7a4 50 = .ok (.bipush 16, 2) := by decide +kernel
theorem dJ6_numberOfTrailingZeros_0f7a4_52 : decode cJ6_numberOfTrailingZeros_0f7a4 52 = .ok (.if_icmp .le 10, 3) := by decide +kernel
theorem dJ6_numberOfTrailingZeros_0f7a4_55 : decode cJ6_numberOfTrailingZeros_0f7a4 55 = .ok (.iinc 1 4, 3) := by decide +kernel
theorem dJ6_numberOfTrailingZeros_0f7a4_58 : decode cJ6_numberOfTrailingZeros_0f7a4 58 = .ok (.iload_n 0, 1) := by decide +kernel
theorem dJ6_numberOfTrailingZeros_0f7a4_59 : decode cJ6_numberOfTrailingZeros_0f7a4 59 = .ok (.iconst 4, 1) := by decide +kernel
theorem dJ6_numberOfTrailingZeros_0f7a4_60 : decode cJ6_numberOfTrailingZeros_0f7a4 60 = .ok (.iushr, 1) := by decide +kernel
theorem dJ6_numberOfTrailingZeros_0f7a4_61 : decode cJ6_numberOfTrailingZeros_0f7a4 61 = .ok (.istore_n 0, 1) := by decide +kernel
theorem dJ6_numberOfTrailingZeros_0f7a4_62 : decode cJ6_numberOfTrailingZeros_0f7a4 62 = .ok (.iload_n 0, 1) := by decide +kernel
theorem dJ6_numberOfTrailingZeros_0f7a4_63 : decode cJ6_numberOfTrailingZeros_0f7a4 63 = .ok (.iconst 4, 1) := by decide +kernel
theorem dJ6_numberOfTrailingZeros_0f7a4_64 : decode cJ6_numberOfTrailingZeros_0f7a4 64 = .ok (.if_icmp .le 10, 3) := by decide +kernel
theorem dJ6_numberOfTrailingZeros_0f7a4_67 : decode cJ6_numberOfTrailingZeros_0f7a4 67 = .ok (.iinc 1 2, 3) := by decide +kernel
theorem dJ6_numberOfTrailingZeros_0f7a4_70 : decode cJ6_numberOfTrailingZeros_0f7a4 70 = .ok (.iload_n 0, 1) := by decide +kernel
theorem dJ6_numberOfTrailingZeros_0f7a4_71 : decode cJ6_numberOfTrailingZeros_0f7a4 71 = .ok (.iconst 2, 1) := by decide +kernel
theorem dJ6_numberOfTrailingZeros_0f7a4_72 : decode cJ6_numberOfTrailingZeros_0f7a4 72 = .ok (.iushr, 1) := by decide +kernel
theorem dJ6_numberOfTrailingZeros_0f7a4_73 : decode cJ6_numberOfTrailingZeros_0f7a4 73 = .ok (.istore_n 0, 1) := by decide +kernel
theorem dJ6_numberOfTrailingZeros_0f7a4_74 : decode cJ6_numberOfTrailingZeros_0f7a4 74 = .ok (.iload_n 1, 1) := by decide +kernel
theorem dJ6_numberOfTrailingZeros_0f7a4_75 : decode cJ6_numberOfTrailingZeros_0f7a4 75 = .ok (.iload_n 0, 1) := by decide +kernel
theorem dJ6_numberOfTrailingZeros_0f7a4_76 : decode cJ6_numberOfTrailingZeros_0f7a4 76 = .ok (.iconst 1, 1) := by decide +kernel
theorem dJ6_numberOfTrailingZeros_0f7a4_77 : decode cJ6_numberOfTrailingZeros_0f7a4 77 = .ok (.iushr, 1) := by decide +kernel
theorem dJ6_numberOfTrailingZeros_0f7a4_78 : decode cJ6_numberOfTrailingZeros_0f7a4 78 = .ok (.iadd, 1) := by decide +kernel
theorem dJ6_numberOfTrailingZeros_0f7a4_79 : decode cJ6_numberOfTrailingZeros_0f7a4 79 = .ok (.ireturn, 1) := by decide +kernel
theorem dJ6_bitCount_0f7a4_0 : decode cJ6_bitCount_0f7a4 0 = .ok (.iload_n 0, 1) := by decide +kernel
theorem dJ6_bitCount_0f7a4_1 : decode cJ6_bitCount_0f7a4 1 = .ok (.iload_n 0, 1) := by decide +kernel
theorem dJ6_bitCount_0f7a4_2 : decode cJ6_bitCount_0f7a4 2 = .ok (.iconst 1, 1) := by decide +kernel
theorem dJ6_bitCount_0f7a4_3 : decode cJ6_bitCount_0f7a4 3 = .ok (.iushr, 1) := by decide +kernel
theorem dJ6_bitCount_0f7a4_4 : decode cJ6_bitCount_0f7a4 4 = .ok (.ldc_w 265, 3) := by decide +kernel
theorem dJ6_bitCount_0f7a4_7 : decode cJ6_bitCount_0f7a4 7 = .ok (.iand, 1) := by decide +kernel
theorem dJ6_bitCount_0f7a4_8 : decode cJ6_bitCount_0f7a4 8 = .ok (.isub, 1) := by decide +kernel
theorem dJ6_bitCount_0f7a4_9 : decode cJ6_bitCount_0f7a4 9 = .ok (.istore_n 0, 1) := by decide +kernel
theorem dJ6_bitCount_0f7a4_10 : decode cJ6_bitCount_0f7a4 10 = .ok (.iload_n 0, 1) := by decide +kernel
theorem dJ6_bitCount_0f7a4_11 : decode cJ6_bitCount_0f7a4 11 = .ok (.ldc_w 266, 3) := by decide +kernel
theorem dJ6_bitCount_0f7a4_14 : decode cJ6_bitCount_0f7a4 14 = .ok (.iand, 1) := by decide +kernel
theorem dJ6_bitCount_0f7a4_15 : decode cJ6_bitCount_0f7a4 15 = .ok (.iload_n 0, 1) := by decide +kernel
theorem dJ6_bitCount_0f7a4_16 : decode cJ6_bitCount_0f7a4 16 = .ok (.iconst 2, 1) := by decide +kernel
theorem dJ6_bitCount_0f7a4_17 : decode cJ6_bitCount_0f7a4 17 = .ok (.iushr, 1) := by decide +kernel
theorem dJ6_bitCount_0f7a4_18 : decode cJ6_bitCount_0f7a4 18 = .ok (.ldc_w 266, 3) := by decide +kernel
theorem dJ6_bitCount_0f7a4_21 : decode cJ6_bitCount_0f7a4 21 = .ok (.iand, 1) := by decide +kernel
theorem dJ6_bitCount_0f7a4_22 : decode cJ6_bitCount_0f7a4 22 = .ok (.iadd, 1) := by decide +kernel
theorem dJ6_bitCount_0f7a4_23 : decode cJ6_bitCount_0f7a4 23 = .ok (.istore_n 0, 1) := by decide +kernel
theorem dJ6_bitCount_0f7a4_24 : decode cJ6_bitCount_0f7a4 24 = .ok (.iload_n 0, 1) := by decide +kernel
theorem dJ6_bitCount_0f7a4_25 : decode cJ6_bitCount_0f7a4 25 = .ok (.iload_n 0, 1) := by decide +kernel
theorem dJ6_bitCount_0f7a4_26 : decode cJ6_bitCount_0f7a4 26 = .ok (.iconst 4, 1) := by decide +kernel
theorem dJ6_bitCount_0f7a4_27 : decode cJ6_bitCount_0f7a4 27 = .ok (.iushr, 1) := by decide +kernel
theorem dJ6_bitCount_0f7a4_28 : decode cJ6_bitCount_0f7a4 28 = .ok (.iadd, 1) := by decide +kernel
theorem dJ6_bitCount_0f7a4_29 : decode cJ6_bitCount_0f7a4 29 = .ok (.ldc_w 267, 3) := by decide +kernel
theorem dJ6_bitCount_0f7a4_32 : decode cJ6_bitCount_0f7a4 32 = .ok (.iand, 1) := by decide +kernel
theorem dJ6_bitCount_0f7a4_33 : decode cJ6_bitCount_0f7a4 33 = .ok (.istore_n 0, 1) := by decide +kernel
theorem dJ6_bitCount_0f7a4_34 : decode cJ6_bitCount_0f7a4 34 = .ok (.iload_n 0, 1) := by decide +kernel
theorem dJ6_bitCount_0f7a4_35 : decode cJ6_bitCount_0f7a4 35 = .ok (.iload_n 0, 1) := by decide +kernel
theorem dJ6_bitCount_0f7a4_36 : decode cJ6_bitCount_0f7a4 36 = .ok (.bipush 8, 2) := by decide +kernel
theorem dJ6_bitCount_0f7a4_38 : decode cJ6_bitCount_0f7a4 38 = .ok (.iushr, 1) := by decide +kernel
theorem dJ6_bitCount_0f7a4_39 : decode cJ6_bitCount_0f7a4 39 = .ok (.iadd, 1) := by decide +kernel
theorem dJ6_bitCount_0f7a4_40 : decode cJ6_bitCount_0f7a4 40 = .ok (.istore_n 0, 1) := by decide +kernel
theorem dJ6_bitCount_0f7a4_41 : decode cJ6_bitCount_0f7a4 41 = .ok (.iload_n 0, 1) := by decide +kernel
theorem dJ6_bitCount_0f7a4_42 : decode cJ6_bitCount_0f7a4 42 = .ok (.iload_n 0, 1) := by decide +kernel
theorem dJ6_bitCount_0f7a4_43 : decode cJ6_bitCount_0f7a4 43 = .ok (.bipush 16, 2) := by decide +kernel
theorem dJ6_bitCount_0f7a4_45 : decode cJ6_bitCount_0f7a4 45 = .ok (.iushr, 1) := by decide +kernel
theorem dJ6_bitCount_0f7a4_46 : decode cJ6_bitCount_0f7a4 46 = .ok (.iadd, 1) := by decide +kernel
theorem dJ6_bitCount_0f7a4_47 : decode cJ6_bitCount_0f7a4 47 = .ok (.istore_n 0, 1) := by decide +kernel
theorem dJ6_bitCount_0f7a4_48 : decode cJ6_bitCount_0f7a4 48 = .ok (.iload_n 0, 1) := by decide +kernel
theorem dJ6_bitCount_0f7a4_49 : decode cJ6_bitCount_0f7a4 49 = .ok (.bipush 63, 2) := by decide +kernel
theorem dJ6_bitCount_0f7a4_51 : decode cJ6_bitCount_0f7a4 51 = .ok (.iand, 1) := by decide +kernel
theorem dJ6_bitCount_0f7a4_52 : decode cJ6_bitCount_0f7a4 52 = .ok (.ireturn, 1) := by decide +kernel
theorem dJ0_length_8abf5_0 : decode cJ0_length_8abf5 0 = .ok (.aload_n 0, 1) := by decide +kernel
theorem dJ0_length_8abf5_1 : decode cJ0_length_8abf5 1 = .ok (.getfield 9, 3) := by decide +kernel
theorem dJ0_length_8abf5_4 : decode cJ0_length_8abf5 4 = .ok (.arraylength, 1) := by decide +kernel
theorem dJ0_length_8abf5_5 : decode cJ0_length_8abf5 5 = .ok (.aload_n 0, 1) := by decide +kernel
theorem dJ0_length_8abf5_6 : decode cJ0_length_8abf5 6 = .ok (.invokevirtual 335, 3) := by decide +kernel
theorem dJ0_length_8abf5_9 : decode cJ0_length_8abf5 9 = .ok (.ishr, 1) := by decide +kernel
theorem dJ0_length_8abf5_10 : decode cJ0_length_8abf5 10 = .ok (.ireturn, 1) := by decide +kernel
theorem dJ0_charAt_5068e_0 : decode cJ0_charAt_5068e 0 = .ok (.aload_n 0, 1) := by decide +kernel
theorem dJ0_charAt_5068e_1 : decode cJ0_charAt_5068e 1 = .ok (.invokevirtual 492, 3) := by decide +kernel
theorem dJ0_charAt_5068e_4 : decode cJ0_charAt_5068e 4 = .ok (.ifCond .eq 12, 3) := by decide +kernel
theorem dJ0_charAt_5068e_7 : decode cJ0_charAt_5068e 7 = .ok (.aload_n 0, 1) := by decide +kernel
theorem dJ0_charAt_5068e_8 : decode cJ0_charAt_5068e 8 = .ok (.getfield 9, 3) := by decide +kernel
theorem dJ0_charAt_5068e_11 : decode cJ0_charAt_5068e 11 = .ok (.iload_n 1, 1) := by decide +kernel
theorem dJ0_charAt_5068e_12 : decode cJ0_charAt_5068e 12 = .ok (.invokestatic 495, 3) := by decide +kernel
theorem dJ0_charAt_5068e_15 : decode cJ0_charAt_5068e 15 = .ok (.ireturn, 1) := by decide +kernel
theorem dJ0_coder_7d493_0 : decode cJ0_coder_7d493 0 = .ok (.getstatic 38, 3) := by decide +kernel
theorem dJ0_coder_7d493_3 : decode cJ0_coder_7d493 3 = .ok (.ifCond .eq 10, 3) := by decide +kernel
theorem dJ0_coder_7d493_6 : decode cJ0_coder_7d493 6 = .ok (.aload_n 0, 1) := by decide +kernel
theorem dJ0_coder_7d493_7 : decode cJ0_coder_7d493 7 = .ok (.getfield 15, 3) := by decide +kernel
theorem dJ0_coder_7d493_10 : decode cJ0_coder_7d493 10 = .ok (.goto 4, 3) := by decide +kernel
theorem dJ0_coder_7d493_14 : decode cJ0_coder_7d493 14 = .ok (.ireturn, 1) := by decide +kernel
theorem dJ0_isLatin1_aae02_0 : decode cJ0_isLatin1_aae02 0 = .ok (.getstatic 38, 3) := by decide +kernel
theorem dJ0_isLatin1_aae02_3 : decode cJ0_isLatin1_aae02 3 = .ok (.ifCond .eq 14, 3) := by decide +kernel
theorem dJ0_isLatin1_aae02_6 : decode cJ0_isLatin1_aae02 6 = .ok (.aload_n 0, 1) := by decide +kernel
theorem dJ0_isLatin1_aae02_7 : decode cJ0_isLatin1_aae02 7 = .ok (.getfield 15, 3) := by decide +kernel
theorem dJ0_isLatin1_aae02_10 : decode cJ0_isLatin1_aae02 10 = .ok (.ifCond .ne 7, 3) := by decide +kernel
theorem dJ0_isLatin1_aae02_13 : decode cJ0_isLatin1_aae02 13 = .ok (.iconst 1, 1) := by decide +kernel
theorem dJ0_isLatin1_aae02_14 : decode cJ0_isLatin1_aae02 14 = .ok (.goto 4, 3) := by decide +kernel
theorem dJ0_isLatin1_aae02_18 : decode cJ0_isLatin1_aae02 18 = .ok (.ireturn, 1) := by decide +kernel
theorem dJ0_checkIndex_df160_0 : decode cJ0_checkIndex_df160 0 = .ok (.iload_n 0, 1) := by decide +kernel
theorem dJ0_checkIndex_df160_1 : decode cJ0_checkIndex_df160 1 = .ok (.iload_n 1, 1) := by decide +kernel
theorem dJ0_checkIndex_df160_2 : decode cJ0_checkIndex_df160 2 = .ok (.getstatic 1053, 3) := by decide +kernel
theorem dJ0_checkIndex_df160_5 : decode cJ0_checkIndex_df160 5 = .ok (.invokestatic 1059, 3) := by decide +kernel
theorem dJ0_checkIndex_df160_8 : decode cJ0_checkIndex_df160 8 = .ok (.pop, 1) := by decide +kernel
theorem dJ0_checkIndex_df160_9 : decode cJ0_checkIndex_df160 9 = .ok (.return_, 1) := by decide +kernel
theorem dJ1_charAt_3b067_0 : decode cJ1_charAt_3b067 0 = .ok (.iload_n 1, 1) := by decide +kernel
theorem dJ1_charAt_3b067_1 : decode cJ1_charAt_3b067 1 = .ok (.aload_n 0, 1) := by decide +kernel
theorem dJ1_charAt_3b067_2 : decode cJ1_charAt_3b067 2 = .ok (.arraylength, 1) := by decide +kernel
theorem dJ1_charAt_3b067_3 : decode cJ1_charAt_3b067 3 = .ok (.invokestatic 9, 3) := by decide +kernel
theorem dJ1_charAt_3b067_6 : decode cJ1_charAt_3b067 6 = .ok (.aload_n 0, 1) := by decide +kernel
theorem dJ1_charAt_3b067_7 : decode cJ1_charAt_3b067 7 = .ok (.iload_n 1, 1) := by decide +kernel
theorem dJ1_charAt_3b067_8 : decode cJ1_charAt_3b067 8 = .ok (.baload, 1) := by decide +kernel
theorem dJ1_charAt_3b067_9 : decode cJ1_charAt_3b067 9 = .ok (.sipush 255, 3) := by decide +kernel
theorem dJ1_charAt_3b067_12 : decode cJ1_charAt_3b067 12 = .ok (.iand, 1) := by decide +kernel
theorem dJ1_charAt_3b067_13 : decode cJ1_charAt_3b067 13 = .ok (.i2c, 1) := by decide +kernel
theorem dJ1_charAt_3b067_14 : decode cJ1_charAt_3b067 14 = .ok (.ireturn, 1) := by decide +kernel
theorem dJ7_fill_53178_0 : decode cJ7_fill_53178 0 = .ok (.iconst 0, 1) := by decide +kernel
theorem dJ7_fill_53178_1 : decode cJ7_fill_53178 1 = .ok (.istore_n 2, 1) := by decide +kernel
theorem dJ7_fill_53178_2 : decode cJ7_fill_53178 2 = .ok (.aload_n 0, 1) := by decide +kernel
theorem dJ7_fill_53178_3 : decode cJ7_fill_53178 3 = .ok (.arraylength, 1) := by decide +kernel
theorem dJ7_fill_53178_4 : decode cJ7_fill_53178 4 = .ok (.istore_n 3, 1) := by decide +kernel
theorem dJ7_fill_53178_5 : decode cJ7_fill_53178 5 = .ok (.iload_n 2, 1) := by decide +kernel
theorem dJ7_fill_53178_6 : decode cJ7_fill_53178 6 = .ok (.iload_n 3, 1) := by decide +kernel
theorem dJ7_fill_53178_7 : decode cJ7_fill_53178 7 = .ok (.if_icmp .ge 13, 3) := by decide +kernel
theorem dJ7_fill_53178_10 : decode cJ7_fill_53178 10 = .ok (.aload_n 0, 1) := by decide +kernel
theorem dJ7_fill_53178_11 : decode cJ7_fill_53178 11 = .ok (.iload_n 2, 1) := by decide +kernel
theorem dJ7_fill_53178_12 : decode cJ7_fill_53178 12 = .ok (.iload_n 1, 1) := by decide +kernel
theorem dJ7_fill_53178_13 : decode cJ7_fill_53178 13 = .ok (.iastore, 1) := by decide +kernel
theorem dJ7_fill_53178_14 : decode cJ7_fill_53178 14 = .ok (.iinc 2 1, 3) := by decide +kernel
theorem dJ7_fill_53178_17 : decode cJ7_fill_53178 17 = .ok (.goto (-12), 3) := by decide +kernel
theorem dJ7_fill_53178_20 : decode cJ7_fill_53178 20 = .ok (.return_, 1) := by decide +kernel
theorem dJ3_checkIndex_8e157_0 : decode cJ3_checkIndex_8e157 0 = .ok (.iload_n 0, 1) := by decide +kernel
theorem dJ3_checkIndex_8e157_1 : decode cJ3_checkIndex_8e157 1 = .ok (.ifCond .lt 8, 3) := by decide +kernel
theorem dJ3_checkIndex_8e157_4 : decode cJ3_checkIndex_8e157 4 = .ok (.iload_n 0, 1) := by decide +kernel
theorem dJ3_checkIndex_8e157_5 : decode cJ3_checkIndex_8e157 5 = .ok (.iload_n 1, 1) := by decide +kernel
theorem dJ3_checkIndex_8e157_6 : decode cJ3_checkIndex_8e157 6 = .ok (.if_icmp .lt 10, 3) := by decide +kernel
theorem dJ3_checkIndex_8e157_16 : decode cJ3_checkIndex_8e157 16 = .ok (.iload_n 0, 1) := by decide +kernel
theorem dJ3_checkIndex_8e157_17 : decode cJ3_checkIndex_8e157 17 = .ok (.ireturn, 1) := by decide +kernel
set_option maxRecDepth 20000 in
theorem ggX2_copy_X4_copy : GoodIn wsX2_copy wsX4_copy := goodIn_r _ [22, 23, 24, 25, 7, 8, 9, 39, 40, 41] (by decide +kernel) (by decide +kernel)
set_option maxRecDepth 20000 in
theorem gX2_copy_X4_copy : GoodIn wsX2_copy (wsV RX2 72 RX4 yX4_copy wsX4_copy) := goodIn_app (goodIn_of _ (by decide +kernel)) ggX2_copy_X4_copy
theorem dX11_rests_0 : decode cX11_rests 0 = .ok (.iload_n 1, 1) := by decide +kernel
theorem dX11_rests_1 : decode cX11_rests 1 = .ok (.invokestatic 325, 3) := by decide +kernel
theorem dX11_rests_4 : decode cX11_rests 4 = .ok (.ifCond .eq 15, 3) := by decide +kernel
theorem dX11_rests_7 : decode cX11_rests 7 = .ok (.iload_n 2, 1) := by decide +kernel
theorem dX11_rests_8 : decode cX11_rests 8 = .ok (.invokestatic 325, 3) := by decide +kernel
theorem dX11_rests_11 : decode cX11_rests 11 = .ok (.ifCond .eq 8, 3) := by decide +kernel
theorem dX11_rests_14 : decode cX11_rests 14 = .ok (.iload_n 3, 1) := by decide +kernel
theorem dX11_rests_15 : decode cX11_rests 15 = .ok (.iconst (-1), 1) := by decide +kernel
theorem dX11_rests_16 : decode cX11_rests 16 = .ok (.if_icmp .ge 14, 3) := by decide +kernel
theorem dX11_rests_19 : decode cX11_rests 19 = .ok (.new 328, 3) := by decide +kernel
theorem dX11_rests_22 : decode cX11_rests 22 = .ok (.dup, 1) := by decide +kernel
theorem dX11_rests_23 : decode cX11_rests 23 = .ok (.ldc_w 330, 3) := by decide +kernel
theorem dX11_rests_26 : decode cX11_rests 26 = .ok (.invokespecial 332, 3) := by decide +kernel
theorem dX11_rests_29 : decode cX11_rests 29 = .ok (.athrow, 1) := by decide +kernel
theorem dX11_rests_30 : decode cX11_rests 30 = .ok (.iconst 0, 1) := by decide +kernel
theorem dX11_rests_31 : decode cX11_rests 31 = .ok (.istore 4, 2) := by decide +kernel
theorem dX11_rests_33 : decode cX11_rests 33 = .ok (.iconst 0, 1) := by decide +kernel
theorem dX11_rests_34 : decode cX11_rests 34 = .ok (.istore 5, 2) := by decide +kernel
theorem dX11_rests_36 : decode cX11_rests 36 = .ok (.iload 5, 2) := by decide +kernel
theorem dX11_rests_38 : decode cX11_rests 38 = .ok (.iconst 4, 1) := by decide +kernel
theorem dX11_rests_39 : decode cX11_rests 39 = .ok (.if_icmp .ge 31, 3) := by decide +kernel
theorem dX11_rests_42 : decode cX11_rests 42 = .ok (.iload_n 1, 1) := by decide +kernel
theorem dX11_rests_43 : decode cX11_rests 43 = .ok (.iload_n 2, 1) := by decide +kernel
theorem dX11_rests_44 : decode cX11_rests 44 = .ok (.iload 5, 2) := by decide +kernel
theorem dX11_rests_46 : decode cX11_rests 46 = .ok (.invokestatic 335, 3) := by decide +kernel
theorem dX11_rests_49 : decode cX11_rests 49 = .ok (.ifCond .eq 15, 3) := by decide +kernel
theorem dX11_rests_52 : decode cX11_rests 52 = .ok (.iload 4, 2) := by decide +kernel
theorem dX11_rests_54 : decode cX11_rests 54 = .ok (.iload_n 3, 1) := by decide +kernel
theorem dX11_rests_55 : decode cX11_rests 55 = .ok (.if_icmp .ne 6, 3) := by decide +kernel
theorem dX11_rests_58 : decode cX11_rests 58 = .ok (.iload 5, 2) := by decide +kernel
theorem dX11_rests_60 : decode cX11_rests 60 = .ok (.ireturn, 1) := by decide +kernel
theorem dX11_rests_61 : decode cX11_rests 61 = .ok (.iinc 4 1, 3) := by decide +kernel
theorem dX11_rests_64 : decode cX11_rests 64 = .ok (.iinc 5 1, 3) := by decide +kernel
theorem dX11_rests_67 : decode cX11_rests 67 = .ok (.goto (-31), 3) := by decide +kernel
theorem dX11_rests_70 : decode cX11_rests 70 = .ok (.iload_n 3, 1) := by decide +kernel
theorem dX11_rests_71 : decode cX11_rests 71 = .ok (.iconst (-1), 1) := by decide +kernel
theorem dX11_rests_72 : decode cX11_rests 72 = .ok (.if_icmp .eq 14, 3) := by decide +kernel
theorem dX11_rests_75 : decode cX11_rests 75 = .ok (.new 328, 3) := by decide +kernel
theorem dX11_rests_78 : decode cX11_rests 78 = .ok (.dup, 1) := by decide +kernel
theorem dX11_rests_79 : decode cX11_rests 79 = .ok (.ldc_w 339, 3) := by decide +kernel
theorem dX11_rests_82 : decode cX11_rests 82 = .ok (.invokespecial 332, 3) := by decide +kernel
theorem dX11_rests_85 : decode cX11_rests 85 = .ok (.athrow, 1) := by decide +kernel
theorem dX11_rests_86 : decode cX11_rests 86 = .ok (.iload 4, 2) := by decide +kernel
theorem dX11_rests_88 : decode cX11_rests 88 = .ok (.ireturn, 1) := by decide +kernel
theorem dX11_isAtRest_0 : decode cX11_isAtRest 0 = .ok (.iload_n 0, 1) := by decide +kernel
theorem dX11_isAtRest_1 : decode cX11_isAtRest 1 = .ok (.iload_n 1, 1) := by decide +kernel
theorem dX11_isAtRest_2 : decode cX11_isAtRest 2 = .ok (.iload_n 2, 1) := by decide +kernel
theorem dX11_isAtRest_3 : decode cX11_isAtRest 3 = .ok (.iconst 2, 1) := by decide +kernel
theorem dX11_isAtRest_4 : decode cX11_isAtRest 4 = .ok (.ixor, 1) := by decide +kernel
theorem dX11_isAtRest_5 : decode cX11_isAtRest 5 = .ok (.invokestatic 341, 3) := by decide +kernel
theorem dX11_isAtRest_8 : decode cX11_isAtRest 8 = .ok (.iload_n 0, 1) := by decide +kernel
theorem dX11_isAtRest_9 : decode cX11_isAtRest 9 = .ok (.iload_n 1, 1) := by decide +kernel
theorem dX11_isAtRest_10 : decode cX11_isAtRest 10 = .ok (.iload_n 2, 1) := by decide +kernel
theorem dX11_isAtRest_11 : decode cX11_isAtRest 11 = .ok (.invokestatic 341, 3) := by decide +kernel
theorem dX11_isAtRest_14 : decode cX11_isAtRest 14 = .ok (.if_icmp .gt 24, 3) := by decide +kernel
theorem dX11_isAtRest_17 : decode cX11_isAtRest 17 = .ok (.iload_n 0, 1) := by decide +kernel
theorem dX11_isAtRest_18 : decode cX11_isAtRest 18 = .ok (.iload_n 1, 1) := by decide +kernel
theorem dX11_isAtRest_19 : decode cX11_isAtRest 19 = .ok (.iload_n 2, 1) := by decide +kernel
theorem dX11_isAtRest_20 : decode cX11_isAtRest 20 = .ok (.iconst 1, 1) := by decide +kernel
theorem dX11_isAtRest_21 : decode cX11_isAtRest 21 = .ok (.ixor, 1) := by decide +kernel
theorem dX11_isAtRest_22 : decode cX11_isAtRest 22 = .ok (.invokestatic 345, 3) := by decide +kernel
theorem dX11_isAtRest_25 : decode cX11_isAtRest 25 = .ok (.iload_n 0, 1) := by decide +kernel
theorem dX11_isAtRest_26 : decode cX11_isAtRest 26 = .ok (.iload_n 1, 1) := by decide +kernel
theorem dX11_isAtRest_27 : decode cX11_isAtRest 27 = .ok (.iload_n 2, 1) := by decide +kernel
theorem dX11_isAtRest_28 : decode cX11_isAtRest 28 = .ok (.invokestatic 345, 3) := by decide +kernel
theorem dX11_isAtRest_31 : decode cX11_isAtRest 31 = .ok (.if_icmp .gt 7, 3) := by decide +kernel
theorem dX11_isAtRest_34 : decode cX11_isAtRest 34 = .ok (.iconst 1, 1) := by decide +kernel
theorem dX11_isAtRest_35 : decode cX11_isAtRest 35 = .ok (.goto 4, 3) := by decide +kernel
theorem dX11_isAtRest_38 : decode cX11_isAtRest 38 = .ok (.iconst 0, 1) := by decide +kernel
theorem dX11_isAtRest_39 : decode cX11_isAtRest 39 = .ok (.ireturn, 1) := by decide +kernel
theorem dX11_guardGets_0 : decode cX11_guardGets 0 = .ok (.iload_n 2, 1) := by decide +kernel
theorem dX11_guardGets_1 : decode cX11_guardGets 1 = .ok (.tableswitch 34 1 3 #[27, 30, 32], 27) := by decide +kernel
theorem dX11_guardGets_28 : decode cX11_guardGets 28 = .ok (.iload_n 1, 1) := by decide +kernel
theorem dX11_guardGets_29 : decode cX11_guardGets 29 = .ok (.ineg, 1) := by decide +kernel
theorem dX11_guardGets_30 : decode cX11_guardGets 30 = .ok (.ireturn, 1) := by decide +kernel
theorem dX11_guardGets_31 : decode cX11_guardGets 31 = .ok (.iconst (-1), 1) := by decide +kernel
theorem dX11_guardGets_32 : decode cX11_guardGets 32 = .ok (.ireturn, 1) := by decide +kernel
theorem dX11_guardGets_33 : decode cX11_guardGets 33 = .ok (.iload_n 0, 1) := by decide +kernel
theorem dX11_guardGets_34 : decode cX11_guardGets 34 = .ok (.ireturn, 1) := by decide +kernel
theorem dX11_guardGets_35 : decode cX11_guardGets 35 = .ok (.iconst 0, 1) := by decide +kernel
theorem dX11_guardGets_36 : decode cX11_guardGets 36 = .ok (.ireturn, 1) := by decide +kernel
theorem dX11_travellerGets_0 : decode cX11_travellerGets 0 = .ok (.iload_n 2, 1) := by decide +kernel
theorem dX11_travellerGets_1 : decode cX11_travellerGets 1 = .ok (.lookupswitch 32 #[(1, 27), (3, 29)], 27) := by decide +kernel
theorem dX11_travellerGets_28 : decode cX11_travellerGets 28 = .ok (.iload_n 1, 1) := by decide +kernel
theorem dX11_travellerGets_29 : decode cX11_travellerGets 29 = .ok (.ireturn, 1) := by decide +kernel
theorem dX11_travellerGets_30 : decode cX11_travellerGets 30 = .ok (.iload_n 0, 1) := by decide +kernel
theorem dX11_travellerGets_31 : decode cX11_travellerGets 31 = .ok (.ineg, 1) := by decide +kernel
theorem dX11_travellerGets_32 : decode cX11_travellerGets 32 = .ok (.ireturn, 1) := by decide +kernel
theorem dX11_travellerGets_33 : decode cX11_travellerGets 33 = .ok (.iconst 0, 1) := by decide +kernel
theorem dX11_travellerGets_34 : decode cX11_travellerGets 34 = .ok (.ireturn, 1) := by decide +kernel
theorem dL_rests_0 : decode cL_rests 0 = .ok (.aload 4, 2) := by decide +kernel
theorem dL_rests_2 : decode cL_rests 2 = .ok (.iconst 0, 1) := by decide +kernel
theorem dL_rests_3 : decode cL_rests 3 = .ok (.aload_n 0, 1) := by decide +kernel
theorem dL_rests_4 : decode cL_rests 4 = .ok (.iload_n 1, 1) := by decide +kernel
theorem dL_rests_5 : decode cL_rests 5 = .ok (.iload_n 2, 1) := by decide +kernel
theorem dL_rests_6 : decode cL_rests 6 = .ok (.iload_n 3, 1) := by decide +kernel
theorem dL_rests_7 : decode cL_rests 7 = .ok (.invokevirtual 7, 3) := by decide +kernel
theorem dL_rests_10 : decode cL_rests 10 = .ok (.i2l, 1) := by decide +kernel
theorem dL_rests_11 : decode cL_rests 11 = .ok (.lastore, 1) := by decide +kernel
theorem dL_rests_12 : decode cL_rests 12 = .ok (.goto 7, 3) := by decide +kernel
theorem dL_rests_15 : decode cL_rests 15 = .ok (.astore 5, 2) := by decide +kernel
theorem dL_rests_17 : decode cL_rests 17 = .ok (.iconst 1, 1) := by decide +kernel
theorem dL_rests_18 : decode cL_rests 18 = .ok (.ireturn, 1) := by decide +kernel
theorem dL_rests_19 : decode cL_rests 19 = .ok (.iconst 0, 1) := by decide +kernel
theorem dL_rests_20 : decode cL_rests 20 = .ok (.ireturn, 1) := by decide +kernel
set_option maxRecDepth 20000 in
theorem ggX11_isAtRest_X11_guardGets : GoodIn wsX11_isAtRest wsX11_guardGets := goodIn_r _ [4] (by decide +kernel) (by decide +kernel)
set_option maxRecDepth 20000 in
theorem gX11_isAtRest_X11_guardGets : GoodIn wsX11_isAtRest (va_wsS RX11 341 yX11_guardGets wsX11_guardGets) := goodIn_app (goodIn_of _ (by decide +kernel)) ggX11_isAtRest_X11_guardGets
set_option maxRecDepth 20000 in
theorem ggX11_isAtRest_X11_travellerGets : GoodIn wsX11_isAtRest wsX11_travellerGets := goodIn_r _ [7] (by decide +kernel) (by decide +kernel)
set_option maxRecDepth 20000 in
theorem gX11_isAtRest_X11_travellerGets : GoodIn wsX11_isAtRest (va_wsS RX11 345 yX11_travellerGets wsX11_travellerGets) := goodIn_app (goodIn_of _ (by decide +kernel)) ggX11_isAtRest_X11_travellerGets
theorem dL_law_0 : decode cL_law 0 = .ok (.new 8, 3) := by decide +kernel
theorem dL_law_3 : decode cL_law 3 = .ok (.dup, 1) := by decide +kernel
theorem dL_law_4 : decode cL_law 4 = .ok (.invokespecial 15, 3) := by decide +kernel
theorem dL_law_7 : decode cL_law 7 = .ok (.astore_n 1, 1) := by decide +kernel
theorem dL_law_8 : decode cL_law 8 = .ok (.new 16, 3) := by decide +kernel
theorem dL_law_11 : decode cL_law 11 = .ok (.dup, 1) := by decide +kernel
theorem dL_law_12 : decode cL_law 12 = .ok (.invokespecial 18, 3) := by decide +kernel
theorem dL_law_15 : decode cL_law 15 = .ok (.astore_n 2, 1) := by decide +kernel
theorem dL_law_16 : decode cL_law 16 = .ok (.iconst 1, 1) := by decide +kernel
theorem dL_law_17 : decode cL_law 17 = .ok (.newarray .long, 2) := by decide +kernel
theorem dL_law_19 : decode cL_law 19 = .ok (.astore_n 3, 1) := by decide +kernel
theorem dL_law_20 : decode cL_law 20 = .ok (.iconst 0, 1) := by decide +kernel
theorem dL_law_21 : decode cL_law 21 = .ok (.istore 4, 2) := by decide +kernel
theorem dL_law_23 : decode cL_law 23 = .ok (.iload 4, 2) := by decide +kernel
theorem dL_law_25 : decode cL_law 25 = .ok (.aload_n 0, 1) := by decide +kernel
theorem dL_law_26 : decode cL_law 26 = .ok (.arraylength, 1) := by decide +kernel
theorem dL_law_27 : decode cL_law 27 = .ok (.bipush 7, 2) := by decide +kernel
theorem dL_law_29 : decode cL_law 29 = .ok (.isub, 1) := by decide +kernel
theorem dL_law_30 : decode cL_law 30 = .ok (.if_icmp .gt 1254, 3) := by decide +kernel
theorem dL_law_33 : decode cL_law 33 = .ok (.aload_n 0, 1) := by decide +kernel
theorem dL_law_34 : decode cL_law 34 = .ok (.iload 4, 2) := by decide +kernel
theorem dL_law_36 : decode cL_law 36 = .ok (.iaload, 1) := by decide +kernel
theorem dL_law_37 : decode cL_law 37 = .ok (.bipush 63, 2) := by decide +kernel
theorem dL_law_39 : decode cL_law 39 = .ok (.iand, 1) := by decide +kernel
theorem dL_law_40 : decode cL_law 40 = .ok (.tableswitch 1238 0 32 #[148, 295, 308, 321, 358, 395, 432, 469, 494, 507, 520, 545, 570, 607, 644, 669, 706, 743, 768, 805, 818, 843, 868, 905, 918, 931, 984, 1009, 1022, 1059, 1111, 1160, 1213], 148) := by decide +kernel
theorem dL_law_188 : decode cL_law 188 = .ok (.aload_n 1, 1) := by decide +kernel
theorem dL_law_189 : decode cL_law 189 = .ok (.aload_n 0, 1) := by decide +kernel
theorem dL_law_190 : decode cL_law 190 = .ok (.iload 4, 2) := by decide +kernel
theorem dL_law_192 : decode cL_law 192 = .ok (.iconst 1, 1) := by decide +kernel
theorem dL_law_193 : decode cL_law 193 = .ok (.iadd, 1) := by decide +kernel
theorem dL_law_194 : decode cL_law 194 = .ok (.iaload, 1) := by decide +kernel
theorem dL_law_195 : decode cL_law 195 = .ok (.i2l, 1) := by decide +kernel
theorem dL_law_196 : decode cL_law 196 = .ok (.bipush 32, 2) := by decide +kernel
theorem dL_law_198 : decode cL_law 198 = .ok (.lshl, 1) := by decide +kernel
theorem dL_law_199 : decode cL_law 199 = .ok (.aload_n 0, 1) := by decide +kernel
theorem dL_law_200 : decode cL_law 200 = .ok (.iload 4, 2) := by decide +kernel
theorem dL_law_202 : decode cL_law 202 = .ok (.iconst 2, 1) := by decide +kernel
theorem dL_law_203 : decode cL_law 203 = .ok (.iadd, 1) := by decide +kernel
theorem dL_law_204 : decode cL_law 204 = .ok (.iaload, 1) := by decide +kernel
theorem dL_law_205 : decode cL_law 205 = .ok (.i2l, 1) := by decide +kernel
theorem dL_law_206 : decode cL_law 206 = .ok (.ldc2_w 19, 3) := by decide +kernel
theorem dL_law_209 : decode cL_law 209 = .ok (.land, 1) := by decide +kernel
theorem dL_law_210 : decode cL_law 210 = .ok (.lor, 1) := by decide +kernel
theorem dL_law_211 : decode cL_law 211 = .ok (.aload_n 0, 1) := by decide +kernel
theorem dL_law_212 : decode cL_law 212 = .ok (.iload 4, 2) := by decide +kernel
theorem dL_law_214 : decode cL_law 214 = .ok (.iconst 3, 1) := by decide +kernel
theorem dL_law_215 : decode cL_law 215 = .ok (.iadd, 1) := by decide +kernel
theorem dL_law_216 : decode cL_law 216 = .ok (.iaload, 1) := by decide +kernel
theorem dL_law_217 : decode cL_law 217 = .ok (.i2l, 1) := by decide +kernel
theorem dL_law_218 : decode cL_law 218 = .ok (.bipush 32, 2) := by decide +kernel
theorem dL_law_220 : decode cL_law 220 = .ok (.lshl, 1) := by decide +kernel
theorem dL_law_221 : decode cL_law 221 = .ok (.aload_n 0, 1) := by decide +kernel
theorem dL_law_222 : decode cL_law 222 = .ok (.iload 4, 2) := by decide +kernel
theorem dL_law_224 : decode cL_law 224 = .ok (.iconst 4, 1) := by decide +kernel
theorem dL_law_225 : decode cL_law 225 = .ok (.iadd, 1) := by decide +kernel
theorem dL_law_226 : decode cL_law 226 = .ok (.iaload, 1) := by decide +kernel
theorem dL_law_227 : decode cL_law 227 = .ok (.i2l, 1) := by decide +kernel
theorem dL_law_228 : decode cL_law 228 = .ok (.ldc2_w 19, 3) := by decide +kernel
theorem dL_law_231 : decode cL_law 231 = .ok (.land, 1) := by decide +kernel
theorem dL_law_232 : decode cL_law 232 = .ok (.lor, 1) := by decide +kernel
theorem dL_law_233 : decode cL_law 233 = .ok (.aload_n 0, 1) := by decide +kernel
theorem dL_law_234 : decode cL_law 234 = .ok (.iload 4, 2) := by decide +kernel
theorem dL_law_236 : decode cL_law 236 = .ok (.iconst 5, 1) := by decide +kernel
theorem dL_law_237 : decode cL_law 237 = .ok (.iadd, 1) := by decide +kernel
theorem dL_law_238 : decode cL_law 238 = .ok (.iaload, 1) := by decide +kernel
theorem dL_law_239 : decode cL_law 239 = .ok (.i2l, 1) := by decide +kernel
theorem dL_law_240 : decode cL_law 240 = .ok (.bipush 32, 2) := by decide +kernel
theorem dL_law_242 : decode cL_law 242 = .ok (.lshl, 1) := by decide +kernel
theorem dL_law_243 : decode cL_law 243 = .ok (.aload_n 0, 1) := by decide +kernel
theorem dL_law_244 : decode cL_law 244 = .ok (.iload 4, 2) := by decide +kernel
theorem dL_law_246 : decode cL_law 246 = .ok (.bipush 6, 2) := by decide +kernel
theorem dL_law_248 : decode cL_law 248 = .ok (.iadd, 1) := by decide +kernel
theorem dL_law_249 : decode cL_law 249 = .ok (.iaload, 1) := by decide +kernel
theorem dL_law_250 : decode cL_law 250 = .ok (.i2l, 1) := by decide +kernel
theorem dL_law_251 : decode cL_law 251 = .ok (.ldc2_w 19, 3) := by decide +kernel
theorem dL_law_254 : decode cL_law 254 = .ok (.land, 1) := by decide +kernel
theorem dL_law_255 : decode cL_law 255 = .ok (.lor, 1) := by decide +kernel
theorem dL_law_256 : decode cL_law 256 = .ok (.invokevirtual 21, 3) := by decide +kernel
theorem dL_law_259 : decode cL_law 259 = .ok (.pop, 1) := by decide +kernel
theorem dL_law_260 : decode cL_law 260 = .ok (.aload_n 2, 1) := by decide +kernel
theorem dL_law_261 : decode cL_law 261 = .ok (.aload_n 0, 1) := by decide +kernel
theorem dL_law_262 : decode cL_law 262 = .ok (.iload 4, 2) := by decide +kernel
theorem dL_law_264 : decode cL_law 264 = .ok (.iconst 1, 1) := by decide +kernel
theorem dL_law_265 : decode cL_law 265 = .ok (.iadd, 1) := by decide +kernel
theorem dL_law_266 : decode cL_law 266 = .ok (.iaload, 1) := by decide +kernel
theorem dL_law_267 : decode cL_law 267 = .ok (.i2l, 1) := by decide +kernel
theorem dL_law_268 : decode cL_law 268 = .ok (.bipush 32, 2) := by decide +kernel
theorem dL_law_270 : decode cL_law 270 = .ok (.lshl, 1) := by decide +kernel
theorem dL_law_271 : decode cL_law 271 = .ok (.aload_n 0, 1) := by decide +kernel
theorem dL_law_272 : decode cL_law 272 = .ok (.iload 4, 2) := by decide +kernel
theorem dL_law_274 : decode cL_law 274 = .ok (.iconst 2, 1) := by decide +kernel
theorem dL_law_275 : decode cL_law 275 = .ok (.iadd, 1) := by decide +kernel
theorem dL_law_276 : decode cL_law 276 = .ok (.iaload, 1) := by decide +kernel
theorem dL_law_277 : decode cL_law 277 = .ok (.i2l, 1) := by decide +kernel
theorem dL_law_278 : decode cL_law 278 = .ok (.ldc2_w 19, 3) := by decide +kernel
theorem dL_law_281 : decode cL_law 281 = .ok (.land, 1) := by decide +kernel
theorem dL_law_282 : decode cL_law 282 = .ok (.lor, 1) := by decide +kernel
theorem dL_law_283 : decode cL_law 283 = .ok (.aload_n 0, 1) := by decide +kernel
theorem dL_law_284 : decode cL_law 284 = .ok (.iload 4, 2) := by decide +kernel
theorem dL_law_286 : decode cL_law 286 = .ok (.iconst 3, 1) := by decide +kernel
theorem dL_law_287 : decode cL_law 287 = .ok (.iadd, 1) := by decide +kernel
theorem dL_law_288 : decode cL_law 288 = .ok (.iaload, 1) := by decide +kernel
theorem dL_law_289 : decode cL_law 289 = .ok (.i2l, 1) := by decide +kernel
theorem dL_law_290 : decode cL_law 290 = .ok (.bipush 32, 2) := by decide +kernel
theorem dL_law_292 : decode cL_law 292 = .ok (.lshl, 1) := by decide +kernel
theorem dL_law_293 : decode cL_law 293 = .ok (.aload_n 0, 1) := by decide +kernel
theorem dL_law_294 : decode cL_law 294 = .ok (.iload 4, 2) := by decide +kernel
theorem dL_law_296 : decode cL_law 296 = .ok (.iconst 4, 1) := by decide +kernel
theorem dL_law_297 : decode cL_law 297 = .ok (.iadd, 1) := by decide +kernel
theorem dL_law_298 : decode cL_law 298 = .ok (.iaload, 1) := by decide +kernel
theorem dL_law_299 : decode cL_law 299 = .ok (.i2l, 1) := by decide +kernel
theorem dL_law_300 : decode cL_law 300 = .ok (.ldc2_w 19, 3) := by decide +kernel
theorem dL_law_303 : decode cL_law 303 = .ok (.land, 1) := by decide +kernel
theorem dL_law_304 : decode cL_law 304 = .ok (.lor, 1) := by decide +kernel
theorem dL_law_305 : decode cL_law 305 = .ok (.aload_n 0, 1) := by decide +kernel
theorem dL_law_306 : decode cL_law 306 = .ok (.iload 4, 2) := by decide +kernel
theorem dL_law_308 : decode cL_law 308 = .ok (.iconst 5, 1) := by decide +kernel
theorem dL_law_309 : decode cL_law 309 = .ok (.iadd, 1) := by decide +kernel
theorem dL_law_310 : decode cL_law 310 = .ok (.iaload, 1) := by decide +kernel
theorem dL_law_311 : decode cL_law 311 = .ok (.i2l, 1) := by decide +kernel
