theorem dX1_readDoer_93 : decode cX1_readDoer 93 = .ok (.iconst (-1), 1) := by decide +kernel
theorem dX1_readDoer_94 : decode cX1_readDoer 94 = .ok (.if_icmp .eq 7, 3) := by decide +kernel
theorem dX1_readDoer_97 : decode cX1_readDoer 97 = .ok (.iconst 1, 1) := by decide +kernel
theorem dX1_readDoer_98 : decode cX1_readDoer 98 = .ok (.goto 4, 3) := by decide +kernel
theorem dX1_readDoer_101 : decode cX1_readDoer 101 = .ok (.iconst 0, 1) := by decide +kernel
theorem dX1_readDoer_102 : decode cX1_readDoer 102 = .ok (.ireturn, 1) := by decide +kernel
theorem dX1_deedHere_0 : decode cX1_deedHere 0 = .ok (.aload_n 0, 1) := by decide +kernel
theorem dX1_deedHere_1 : decode cX1_deedHere 1 = .ok (.getfield 36, 3) := by decide +kernel
theorem dX1_deedHere_4 : decode cX1_deedHere 4 = .ok (.getstatic 82, 3) := by decide +kernel
theorem dX1_deedHere_7 : decode cX1_deedHere 7 = .ok (.if_acmp .ne 5, 3) := by decide +kernel
theorem dX1_deedHere_10 : decode cX1_deedHere 10 = .ok (.iconst 0, 1) := by decide +kernel
theorem dX1_deedHere_11 : decode cX1_deedHere 11 = .ok (.ireturn, 1) := by decide +kernel
theorem dX1_deedHere_12 : decode cX1_deedHere 12 = .ok (.aload_n 0, 1) := by decide +kernel
theorem dX1_deedHere_13 : decode cX1_deedHere 13 = .ok (.getfield 36, 3) := by decide +kernel
theorem dX1_deedHere_16 : decode cX1_deedHere 16 = .ok (.getstatic 85, 3) := by decide +kernel
theorem dX1_deedHere_19 : decode cX1_deedHere 19 = .ok (.if_acmp .ne 5, 3) := by decide +kernel
theorem dX1_deedHere_22 : decode cX1_deedHere 22 = .ok (.iconst 1, 1) := by decide +kernel
theorem dX1_deedHere_23 : decode cX1_deedHere 23 = .ok (.ireturn, 1) := by decide +kernel
theorem dX1_deedHere_24 : decode cX1_deedHere 24 = .ok (.aload_n 0, 1) := by decide +kernel
theorem dX1_deedHere_25 : decode cX1_deedHere 25 = .ok (.getfield 36, 3) := by decide +kernel
theorem dX1_deedHere_28 : decode cX1_deedHere 28 = .ok (.getstatic 88, 3) := by decide +kernel
theorem dX1_deedHere_31 : decode cX1_deedHere 31 = .ok (.if_acmp .ne 5, 3) := by decide +kernel
theorem dX1_deedHere_34 : decode cX1_deedHere 34 = .ok (.iconst 2, 1) := by decide +kernel
theorem dX1_deedHere_35 : decode cX1_deedHere 35 = .ok (.ireturn, 1) := by decide +kernel
theorem dX1_deedHere_36 : decode cX1_deedHere 36 = .ok (.aload_n 0, 1) := by decide +kernel
theorem dX1_deedHere_37 : decode cX1_deedHere 37 = .ok (.getfield 36, 3) := by decide +kernel
theorem dX1_deedHere_40 : decode cX1_deedHere 40 = .ok (.getstatic 91, 3) := by decide +kernel
theorem dX1_deedHere_43 : decode cX1_deedHere 43 = .ok (.if_acmp .ne 7, 3) := by decide +kernel
theorem dX1_deedHere_46 : decode cX1_deedHere 46 = .ok (.iconst 3, 1) := by decide +kernel
theorem dX1_deedHere_47 : decode cX1_deedHere 47 = .ok (.goto 4, 3) := by decide +kernel
theorem dX1_deedHere_50 : decode cX1_deedHere 50 = .ok (.iconst (-1), 1) := by decide +kernel
theorem dX1_deedHere_51 : decode cX1_deedHere 51 = .ok (.ireturn, 1) := by decide +kernel
theorem dX1_goesTo_0 : decode cX1_goesTo 0 = .ok (.aload_n 0, 1) := by decide +kernel
theorem dX1_goesTo_1 : decode cX1_goesTo 1 = .ok (.getfield 9, 3) := by decide +kernel
theorem dX1_goesTo_4 : decode cX1_goesTo 4 = .ok (.iload_n 1, 1) := by decide +kernel
theorem dX1_goesTo_5 : decode cX1_goesTo 5 = .ok (.iaload, 1) := by decide +kernel
theorem dX1_goesTo_6 : decode cX1_goesTo 6 = .ok (.ifCond .ne 12, 3) := by decide +kernel
theorem dX1_goesTo_9 : decode cX1_goesTo 9 = .ok (.aload_n 0, 1) := by decide +kernel
theorem dX1_goesTo_10 : decode cX1_goesTo 10 = .ok (.getfield 18, 3) := by decide +kernel
theorem dX1_goesTo_13 : decode cX1_goesTo 13 = .ok (.iload_n 1, 1) := by decide +kernel
theorem dX1_goesTo_14 : decode cX1_goesTo 14 = .ok (.iaload, 1) := by decide +kernel
theorem dX1_goesTo_15 : decode cX1_goesTo 15 = .ok (.goto 4, 3) := by decide +kernel
theorem dX1_goesTo_18 : decode cX1_goesTo 18 = .ok (.iconst (-1), 1) := by decide +kernel
theorem dX1_goesTo_19 : decode cX1_goesTo 19 = .ok (.ireturn, 1) := by decide +kernel
theorem dX1_perform_0 : decode cX1_perform 0 = .ok (.aload_n 0, 1) := by decide +kernel
theorem dX1_perform_1 : decode cX1_perform 1 = .ok (.getfield 15, 3) := by decide +kernel
theorem dX1_perform_4 : decode cX1_perform 4 = .ok (.iload_n 1, 1) := by decide +kernel
theorem dX1_perform_5 : decode cX1_perform 5 = .ok (.iaload, 1) := by decide +kernel
theorem dX1_perform_6 : decode cX1_perform 6 = .ok (.istore 4, 2) := by decide +kernel
theorem dX1_perform_8 : decode cX1_perform 8 = .ok (.aload_n 0, 1) := by decide +kernel
theorem dX1_perform_9 : decode cX1_perform 9 = .ok (.getfield 18, 3) := by decide +kernel
theorem dX1_perform_12 : decode cX1_perform 12 = .ok (.iload_n 1, 1) := by decide +kernel
theorem dX1_perform_13 : decode cX1_perform 13 = .ok (.iaload, 1) := by decide +kernel
theorem dX1_perform_14 : decode cX1_perform 14 = .ok (.istore 5, 2) := by decide +kernel
theorem dX1_perform_16 : decode cX1_perform 16 = .ok (.aload_n 0, 1) := by decide +kernel
theorem dX1_perform_17 : decode cX1_perform 17 = .ok (.getfield 9, 3) := by decide +kernel
theorem dX1_perform_20 : decode cX1_perform 20 = .ok (.iload_n 1, 1) := by decide +kernel
theorem dX1_perform_21 : decode cX1_perform 21 = .ok (.iaload, 1) := by decide +kernel
theorem dX1_perform_22 : decode cX1_perform 22 = .ok (.iconst 3, 1) := by decide +kernel
theorem dX1_perform_23 : decode cX1_perform 23 = .ok (.if_icmp .ne 11, 3) := by decide +kernel
theorem dX1_perform_26 : decode cX1_perform 26 = .ok (.aload_n 2, 1) := by decide +kernel
theorem dX1_perform_27 : decode cX1_perform 27 = .ok (.aload_n 3, 1) := by decide +kernel
theorem dX1_perform_28 : decode cX1_perform 28 = .ok (.invokevirtual 94, 3) := by decide +kernel
theorem dX1_perform_31 : decode cX1_perform 31 = .ok (.goto 79, 3) := by decide +kernel
theorem dX1_perform_34 : decode cX1_perform 34 = .ok (.aload_n 0, 1) := by decide +kernel
theorem dX1_perform_35 : decode cX1_perform 35 = .ok (.getfield 9, 3) := by decide +kernel
theorem dX1_perform_38 : decode cX1_perform 38 = .ok (.iload_n 1, 1) := by decide +kernel
theorem dX1_perform_39 : decode cX1_perform 39 = .ok (.iaload, 1) := by decide +kernel
theorem dX1_perform_40 : decode cX1_perform 40 = .ok (.iconst 2, 1) := by decide +kernel
theorem dX1_perform_41 : decode cX1_perform 41 = .ok (.if_icmp .ne 12, 3) := by decide +kernel
theorem dX1_perform_44 : decode cX1_perform 44 = .ok (.aload_n 3, 1) := by decide +kernel
theorem dX1_perform_45 : decode cX1_perform 45 = .ok (.iload 4, 2) := by decide +kernel
theorem dX1_perform_47 : decode cX1_perform 47 = .ok (.invokevirtual 100, 3) := by decide +kernel
theorem dX1_perform_50 : decode cX1_perform 50 = .ok (.goto 60, 3) := by decide +kernel
theorem dX1_perform_53 : decode cX1_perform 53 = .ok (.aload_n 0, 1) := by decide +kernel
theorem dX1_perform_54 : decode cX1_perform 54 = .ok (.getfield 9, 3) := by decide +kernel
theorem dX1_perform_57 : decode cX1_perform 57 = .ok (.iload_n 1, 1) := by decide +kernel
theorem dX1_perform_58 : decode cX1_perform 58 = .ok (.iaload, 1) := by decide +kernel
theorem dX1_perform_59 : decode cX1_perform 59 = .ok (.ifCond .ne 28, 3) := by decide +kernel
theorem dX1_perform_62 : decode cX1_perform 62 = .ok (.aload_n 2, 1) := by decide +kernel
theorem dX1_perform_63 : decode cX1_perform 63 = .ok (.aload_n 3, 1) := by decide +kernel
theorem dX1_perform_64 : decode cX1_perform 64 = .ok (.iload 4, 2) := by decide +kernel
theorem dX1_perform_66 : decode cX1_perform 66 = .ok (.iload 5, 2) := by decide +kernel
theorem dX1_perform_68 : decode cX1_perform 68 = .ok (.invokevirtual 106, 3) := by decide +kernel
theorem dX1_perform_71 : decode cX1_perform 71 = .ok (.ifCond .ne 5, 3) := by decide +kernel
theorem dX1_perform_74 : decode cX1_perform 74 = .ok (.iconst 0, 1) := by decide +kernel
theorem dX1_perform_75 : decode cX1_perform 75 = .ok (.ireturn, 1) := by decide +kernel
theorem dX1_perform_76 : decode cX1_perform 76 = .ok (.aload_n 3, 1) := by decide +kernel
theorem dX1_perform_77 : decode cX1_perform 77 = .ok (.iload 4, 2) := by decide +kernel
theorem dX1_perform_79 : decode cX1_perform 79 = .ok (.iload 5, 2) := by decide +kernel
theorem dX1_perform_81 : decode cX1_perform 81 = .ok (.invokevirtual 110, 3) := by decide +kernel
theorem dX1_perform_84 : decode cX1_perform 84 = .ok (.goto 26, 3) := by decide +kernel
theorem dX1_perform_87 : decode cX1_perform 87 = .ok (.aload_n 2, 1) := by decide +kernel
theorem dX1_perform_88 : decode cX1_perform 88 = .ok (.aload_n 3, 1) := by decide +kernel
theorem dX1_perform_89 : decode cX1_perform 89 = .ok (.iload 4, 2) := by decide +kernel
theorem dX1_perform_91 : decode cX1_perform 91 = .ok (.iload 5, 2) := by decide +kernel
theorem dX1_perform_93 : decode cX1_perform 93 = .ok (.invokevirtual 114, 3) := by decide +kernel
theorem dX1_perform_96 : decode cX1_perform 96 = .ok (.ifCond .ne 5, 3) := by decide +kernel
theorem dX1_perform_99 : decode cX1_perform 99 = .ok (.iconst 0, 1) := by decide +kernel
theorem dX1_perform_100 : decode cX1_perform 100 = .ok (.ireturn, 1) := by decide +kernel
theorem dX1_perform_101 : decode cX1_perform 101 = .ok (.aload_n 2, 1) := by decide +kernel
theorem dX1_perform_102 : decode cX1_perform 102 = .ok (.aload_n 3, 1) := by decide +kernel
theorem dX1_perform_103 : decode cX1_perform 103 = .ok (.iload 4, 2) := by decide +kernel
theorem dX1_perform_105 : decode cX1_perform 105 = .ok (.iload 5, 2) := by decide +kernel
theorem dX1_perform_107 : decode cX1_perform 107 = .ok (.invokevirtual 117, 3) := by decide +kernel
theorem dX1_perform_110 : decode cX1_perform 110 = .ok (.iconst 1, 1) := by decide +kernel
theorem dX1_perform_111 : decode cX1_perform 111 = .ok (.ireturn, 1) := by decide +kernel
theorem dX2_clear_0 : decode cX2_clear 0 = .ok (.aload_n 0, 1) := by decide +kernel
theorem dX2_clear_1 : decode cX2_clear 1 = .ok (.iconst 0, 1) := by decide +kernel
theorem dX2_clear_2 : decode cX2_clear 2 = .ok (.putfield 44, 3) := by decide +kernel
theorem dX2_clear_5 : decode cX2_clear 5 = .ok (.aload_n 0, 1) := by decide +kernel
theorem dX2_clear_6 : decode cX2_clear 6 = .ok (.iconst 0, 1) := by decide +kernel
theorem dX2_clear_7 : decode cX2_clear 7 = .ok (.putfield 48, 3) := by decide +kernel
theorem dX2_clear_10 : decode cX2_clear 10 = .ok (.aload_n 0, 1) := by decide +kernel
theorem dX2_clear_11 : decode cX2_clear 11 = .ok (.iconst 1, 1) := by decide +kernel
theorem dX2_clear_12 : decode cX2_clear 12 = .ok (.putfield 51, 3) := by decide +kernel
theorem dX2_clear_15 : decode cX2_clear 15 = .ok (.aload_n 0, 1) := by decide +kernel
theorem dX2_clear_16 : decode cX2_clear 16 = .ok (.iconst 2, 1) := by decide +kernel
theorem dX2_clear_17 : decode cX2_clear 17 = .ok (.putfield 54, 3) := by decide +kernel
theorem dX2_clear_20 : decode cX2_clear 20 = .ok (.aload_n 0, 1) := by decide +kernel
theorem dX2_clear_21 : decode cX2_clear 21 = .ok (.getfield 15, 3) := by decide +kernel
theorem dX2_clear_24 : decode cX2_clear 24 = .ok (.iconst 0, 1) := by decide +kernel
theorem dX2_clear_25 : decode cX2_clear 25 = .ok (.invokestatic 60, 3) := by decide +kernel
theorem dX2_clear_28 : decode cX2_clear 28 = .ok (.aload_n 0, 1) := by decide +kernel
theorem dX2_clear_29 : decode cX2_clear 29 = .ok (.getfield 40, 3) := by decide +kernel
theorem dX2_clear_32 : decode cX2_clear 32 = .ok (.invokevirtual 57, 3) := by decide +kernel
theorem dX2_clear_35 : decode cX2_clear 35 = .ok (.return_, 1) := by decide +kernel
theorem dX2_copy_0 : decode cX2_copy 0 = .ok (.aload_n 0, 1) := by decide +kernel
theorem dX2_copy_1 : decode cX2_copy 1 = .ok (.aload_n 1, 1) := by decide +kernel
theorem dX2_copy_2 : decode cX2_copy 2 = .ok (.getfield 44, 3) := by decide +kernel
theorem dX2_copy_5 : decode cX2_copy 5 = .ok (.putfield 44, 3) := by decide +kernel
theorem dX2_copy_8 : decode cX2_copy 8 = .ok (.aload_n 0, 1) := by decide +kernel
theorem dX2_copy_9 : decode cX2_copy 9 = .ok (.aload_n 1, 1) := by decide +kernel
theorem dX2_copy_10 : decode cX2_copy 10 = .ok (.getfield 48, 3) := by decide +kernel
theorem dX2_copy_13 : decode cX2_copy 13 = .ok (.putfield 48, 3) := by decide +kernel
theorem dX2_copy_16 : decode cX2_copy 16 = .ok (.aload_n 0, 1) := by decide +kernel
theorem dX2_copy_17 : decode cX2_copy 17 = .ok (.aload_n 1, 1) := by decide +kernel
theorem dX2_copy_18 : decode cX2_copy 18 = .ok (.getfield 51, 3) := by decide +kernel
theorem dX2_copy_21 : decode cX2_copy 21 = .ok (.putfield 51, 3) := by decide +kernel
theorem dX2_copy_24 : decode cX2_copy 24 = .ok (.aload_n 0, 1) := by decide +kernel
theorem dX2_copy_25 : decode cX2_copy 25 = .ok (.aload_n 1, 1) := by decide +kernel
theorem dX2_copy_26 : decode cX2_copy 26 = .ok (.getfield 54, 3) := by decide +kernel
theorem dX2_copy_29 : decode cX2_copy 29 = .ok (.putfield 54, 3) := by decide +kernel
theorem dX2_copy_32 : decode cX2_copy 32 = .ok (.aload_n 1, 1) := by decide +kernel
theorem dX2_copy_33 : decode cX2_copy 33 = .ok (.getfield 9, 3) := by decide +kernel
theorem dX2_copy_36 : decode cX2_copy 36 = .ok (.iconst 0, 1) := by decide +kernel
theorem dX2_copy_37 : decode cX2_copy 37 = .ok (.aload_n 0, 1) := by decide +kernel
theorem dX2_copy_38 : decode cX2_copy 38 = .ok (.getfield 9, 3) := by decide +kernel
theorem dX2_copy_41 : decode cX2_copy 41 = .ok (.iconst 0, 1) := by decide +kernel
theorem dX2_copy_42 : decode cX2_copy 42 = .ok (.bipush 6, 2) := by decide +kernel
theorem dX2_copy_44 : decode cX2_copy 44 = .ok (.invokestatic 66, 3) := by decide +kernel
theorem dX2_copy_47 : decode cX2_copy 47 = .ok (.aload_n 1, 1) := by decide +kernel
theorem dX2_copy_48 : decode cX2_copy 48 = .ok (.getfield 15, 3) := by decide +kernel
theorem dX2_copy_51 : decode cX2_copy 51 = .ok (.iconst 0, 1) := by decide +kernel
theorem dX2_copy_52 : decode cX2_copy 52 = .ok (.aload_n 0, 1) := by decide +kernel
theorem dX2_copy_53 : decode cX2_copy 53 = .ok (.getfield 15, 3) := by decide +kernel
theorem dX2_copy_56 : decode cX2_copy 56 = .ok (.iconst 0, 1) := by decide +kernel
theorem dX2_copy_57 : decode cX2_copy 57 = .ok (.bipush 6, 2) := by decide +kernel
theorem dX2_copy_59 : decode cX2_copy 59 = .ok (.invokestatic 66, 3) := by decide +kernel
theorem dX2_copy_62 : decode cX2_copy 62 = .ok (.aload_n 1, 1) := by decide +kernel
theorem dX2_copy_63 : decode cX2_copy 63 = .ok (.getfield 18, 3) := by decide +kernel
theorem dX2_copy_66 : decode cX2_copy 66 = .ok (.iconst 0, 1) := by decide +kernel
theorem dX2_copy_67 : decode cX2_copy 67 = .ok (.aload_n 0, 1) := by decide +kernel
theorem dX2_copy_68 : decode cX2_copy 68 = .ok (.getfield 18, 3) := by decide +kernel
theorem dX2_copy_71 : decode cX2_copy 71 = .ok (.iconst 0, 1) := by decide +kernel
theorem dX2_copy_72 : decode cX2_copy 72 = .ok (.bipush 6, 2) := by decide +kernel
theorem dX2_copy_74 : decode cX2_copy 74 = .ok (.invokestatic 66, 3) := by decide +kernel
theorem dX2_copy_77 : decode cX2_copy 77 = .ok (.aload_n 1, 1) := by decide +kernel
theorem dX2_copy_78 : decode cX2_copy 78 = .ok (.getfield 22, 3) := by decide +kernel
theorem dX2_copy_81 : decode cX2_copy 81 = .ok (.iconst 0, 1) := by decide +kernel
theorem dX2_copy_82 : decode cX2_copy 82 = .ok (.aload_n 0, 1) := by decide +kernel
theorem dX2_copy_83 : decode cX2_copy 83 = .ok (.getfield 22, 3) := by decide +kernel
theorem dX2_copy_86 : decode cX2_copy 86 = .ok (.iconst 0, 1) := by decide +kernel
theorem dX2_copy_87 : decode cX2_copy 87 = .ok (.bipush 6, 2) := by decide +kernel
theorem dX2_copy_89 : decode cX2_copy 89 = .ok (.invokestatic 66, 3) := by decide +kernel
theorem dX2_copy_92 : decode cX2_copy 92 = .ok (.aload_n 1, 1) := by decide +kernel
theorem dX2_copy_93 : decode cX2_copy 93 = .ok (.getfield 25, 3) := by decide +kernel
theorem dX2_copy_96 : decode cX2_copy 96 = .ok (.iconst 0, 1) := by decide +kernel
theorem dX2_copy_97 : decode cX2_copy 97 = .ok (.aload_n 0, 1) := by decide +kernel
theorem dX2_copy_98 : decode cX2_copy 98 = .ok (.getfield 25, 3) := by decide +kernel
theorem dX2_copy_101 : decode cX2_copy 101 = .ok (.iconst 0, 1) := by decide +kernel
theorem dX2_copy_102 : decode cX2_copy 102 = .ok (.bipush 6, 2) := by decide +kernel
theorem dX2_copy_104 : decode cX2_copy 104 = .ok (.invokestatic 66, 3) := by decide +kernel
theorem dX2_copy_107 : decode cX2_copy 107 = .ok (.aload_n 1, 1) := by decide +kernel
theorem dX2_copy_108 : decode cX2_copy 108 = .ok (.getfield 28, 3) := by decide +kernel
theorem dX2_copy_111 : decode cX2_copy 111 = .ok (.iconst 0, 1) := by decide +kernel
theorem dX2_copy_112 : decode cX2_copy 112 = .ok (.aload_n 0, 1) := by decide +kernel
theorem dX2_copy_113 : decode cX2_copy 113 = .ok (.getfield 28, 3) := by decide +kernel
theorem dX2_copy_116 : decode cX2_copy 116 = .ok (.iconst 0, 1) := by decide +kernel
theorem dX2_copy_117 : decode cX2_copy 117 = .ok (.bipush 6, 2) := by decide +kernel
theorem dX2_copy_119 : decode cX2_copy 119 = .ok (.invokestatic 66, 3) := by decide +kernel
theorem dX2_copy_122 : decode cX2_copy 122 = .ok (.aload_n 1, 1) := by decide +kernel
theorem dX2_copy_123 : decode cX2_copy 123 = .ok (.getfield 31, 3) := by decide +kernel
theorem dX2_copy_126 : decode cX2_copy 126 = .ok (.iconst 0, 1) := by decide +kernel
theorem dX2_copy_127 : decode cX2_copy 127 = .ok (.aload_n 0, 1) := by decide +kernel
theorem dX2_copy_128 : decode cX2_copy 128 = .ok (.getfield 31, 3) := by decide +kernel
theorem dX2_copy_131 : decode cX2_copy 131 = .ok (.iconst 0, 1) := by decide +kernel
theorem dX2_copy_132 : decode cX2_copy 132 = .ok (.bipush 6, 2) := by decide +kernel
theorem dX2_copy_134 : decode cX2_copy 134 = .ok (.invokestatic 66, 3) := by decide +kernel
theorem dX2_copy_137 : decode cX2_copy 137 = .ok (.aload_n 1, 1) := by decide +kernel
theorem dX2_copy_138 : decode cX2_copy 138 = .ok (.getfield 34, 3) := by decide +kernel
theorem dX2_copy_141 : decode cX2_copy 141 = .ok (.iconst 0, 1) := by decide +kernel
theorem dX2_copy_142 : decode cX2_copy 142 = .ok (.aload_n 0, 1) := by decide +kernel
theorem dX2_copy_143 : decode cX2_copy 143 = .ok (.getfield 34, 3) := by decide +kernel
theorem dX2_copy_146 : decode cX2_copy 146 = .ok (.iconst 0, 1) := by decide +kernel
theorem dX2_copy_147 : decode cX2_copy 147 = .ok (.bipush 6, 2) := by decide +kernel
theorem dX2_copy_149 : decode cX2_copy 149 = .ok (.invokestatic 66, 3) := by decide +kernel
theorem dX2_copy_152 : decode cX2_copy 152 = .ok (.aload_n 0, 1) := by decide +kernel
theorem dX2_copy_153 : decode cX2_copy 153 = .ok (.getfield 40, 3) := by decide +kernel
theorem dX2_copy_156 : decode cX2_copy 156 = .ok (.aload_n 1, 1) := by decide +kernel
theorem dX2_copy_157 : decode cX2_copy 157 = .ok (.getfield 40, 3) := by decide +kernel
theorem dX2_copy_160 : decode cX2_copy 160 = .ok (.invokevirtual 72, 3) := by decide +kernel
theorem dX2_copy_163 : decode cX2_copy 163 = .ok (.return_, 1) := by decide +kernel
theorem dX2_townNamed_0 : decode cX2_townNamed 0 = .ok (.iconst 0, 1) := by decide +kernel
theorem dX2_townNamed_1 : decode cX2_townNamed 1 = .ok (.istore_n 3, 1) := by decide +kernel
theorem dX2_townNamed_2 : decode cX2_townNamed 2 = .ok (.iload_n 3, 1) := by decide +kernel
theorem dX2_townNamed_3 : decode cX2_townNamed 3 = .ok (.aload_n 0, 1) := by decide +kernel
theorem dX2_townNamed_4 : decode cX2_townNamed 4 = .ok (.getfield 44, 3) := by decide +kernel
theorem dX2_townNamed_7 : decode cX2_townNamed 7 = .ok (.if_icmp .ge 22, 3) := by decide +kernel
theorem dX2_townNamed_10 : decode cX2_townNamed 10 = .ok (.aload_n 0, 1) := by decide +kernel
theorem dX2_townNamed_11 : decode cX2_townNamed 11 = .ok (.getfield 18, 3) := by decide +kernel
theorem dX2_townNamed_14 : decode cX2_townNamed 14 = .ok (.iload_n 3, 1) := by decide +kernel
theorem dX2_townNamed_15 : decode cX2_townNamed 15 = .ok (.laload, 1) := by decide +kernel
theorem dX2_townNamed_16 : decode cX2_townNamed 16 = .ok (.lload_n 1, 1) := by decide +kernel
theorem dX2_townNamed_17 : decode cX2_townNamed 17 = .ok (.lcmp, 1) := by decide +kernel
theorem dX2_townNamed_18 : decode cX2_townNamed 18 = .ok (.ifCond .ne 5, 3) := by decide +kernel
theorem dX2_townNamed_21 : decode cX2_townNamed 21 = .ok (.iload_n 3, 1) := by decide +kernel
theorem dX2_townNamed_22 : decode cX2_townNamed 22 = .ok (.ireturn, 1) := by decide +kernel
theorem dX2_townNamed_23 : decode cX2_townNamed 23 = .ok (.iinc 3 1, 3) := by decide +kernel
theorem dX2_townNamed_26 : decode cX2_townNamed 26 = .ok (.goto (-24), 3) := by decide +kernel
theorem dX2_townNamed_29 : decode cX2_townNamed 29 = .ok (.iconst (-1), 1) := by decide +kernel
theorem dX2_townNamed_30 : decode cX2_townNamed 30 = .ok (.ireturn, 1) := by decide +kernel
theorem dX2_personNamed_0 : decode cX2_personNamed 0 = .ok (.iconst 0, 1) := by decide +kernel
theorem dX2_personNamed_1 : decode cX2_personNamed 1 = .ok (.istore_n 3, 1) := by decide +kernel
theorem dX2_personNamed_2 : decode cX2_personNamed 2 = .ok (.iload_n 3, 1) := by decide +kernel
theorem dX2_personNamed_3 : decode cX2_personNamed 3 = .ok (.aload_n 0, 1) := by decide +kernel
theorem dX2_personNamed_4 : decode cX2_personNamed 4 = .ok (.getfield 48, 3) := by decide +kernel
theorem dX2_personNamed_7 : decode cX2_personNamed 7 = .ok (.if_icmp .ge 22, 3) := by decide +kernel
theorem dX2_personNamed_10 : decode cX2_personNamed 10 = .ok (.aload_n 0, 1) := by decide +kernel
theorem dX2_personNamed_11 : decode cX2_personNamed 11 = .ok (.getfield 34, 3) := by decide +kernel
theorem dX2_personNamed_14 : decode cX2_personNamed 14 = .ok (.iload_n 3, 1) := by decide +kernel
theorem dX2_personNamed_15 : decode cX2_personNamed 15 = .ok (.laload, 1) := by decide +kernel
theorem dX2_personNamed_16 : decode cX2_personNamed 16 = .ok (.lload_n 1, 1) := by decide +kernel
theorem dX2_personNamed_17 : decode cX2_personNamed 17 = .ok (.lcmp, 1) := by decide +kernel
theorem dX2_personNamed_18 : decode cX2_personNamed 18 = .ok (.ifCond .ne 5, 3) := by decide +kernel
theorem dX2_personNamed_21 : decode cX2_personNamed 21 = .ok (.iload_n 3, 1) := by decide +kernel
theorem dX2_personNamed_22 : decode cX2_personNamed 22 = .ok (.ireturn, 1) := by decide +kernel
theorem dX2_personNamed_23 : decode cX2_personNamed 23 = .ok (.iinc 3 1, 3) := by decide +kernel
theorem dX2_personNamed_26 : decode cX2_personNamed 26 = .ok (.goto (-24), 3) := by decide +kernel
theorem dX2_personNamed_29 : decode cX2_personNamed 29 = .ok (.iconst (-1), 1) := by decide +kernel
theorem dX2_personNamed_30 : decode cX2_personNamed 30 = .ok (.ireturn, 1) := by decide +kernel
theorem dX2_allTowns_0 : decode cX2_allTowns 0 = .ok (.iconst 1, 1) := by decide +kernel
theorem dX2_allTowns_1 : decode cX2_allTowns 1 = .ok (.aload_n 0, 1) := by decide +kernel
theorem dX2_allTowns_2 : decode cX2_allTowns 2 = .ok (.getfield 44, 3) := by decide +kernel
theorem dX2_allTowns_5 : decode cX2_allTowns 5 = .ok (.ishl, 1) := by decide +kernel
theorem dX2_allTowns_6 : decode cX2_allTowns 6 = .ok (.iconst 1, 1) := by decide +kernel
theorem dX2_allTowns_7 : decode cX2_allTowns 7 = .ok (.isub, 1) := by decide +kernel
theorem dX2_allTowns_8 : decode cX2_allTowns 8 = .ok (.ireturn, 1) := by decide +kernel
theorem dX2_mostAsked_0 : decode cX2_mostAsked 0 = .ok (.iconst 0, 1) := by decide +kernel
theorem dX2_mostAsked_1 : decode cX2_mostAsked 1 = .ok (.istore_n 1, 1) := by decide +kernel
theorem dX2_mostAsked_2 : decode cX2_mostAsked 2 = .ok (.iconst 0, 1) := by decide +kernel
theorem dX2_mostAsked_3 : decode cX2_mostAsked 3 = .ok (.istore_n 2, 1) := by decide +kernel
theorem dX2_mostAsked_4 : decode cX2_mostAsked 4 = .ok (.iload_n 2, 1) := by decide +kernel
theorem dX2_mostAsked_5 : decode cX2_mostAsked 5 = .ok (.aload_n 0, 1) := by decide +kernel
theorem dX2_mostAsked_6 : decode cX2_mostAsked 6 = .ok (.getfield 44, 3) := by decide +kernel
theorem dX2_mostAsked_9 : decode cX2_mostAsked 9 = .ok (.if_icmp .ge 20, 3) := by decide +kernel
theorem dX2_mostAsked_12 : decode cX2_mostAsked 12 = .ok (.iload_n 1, 1) := by decide +kernel
theorem dX2_mostAsked_13 : decode cX2_mostAsked 13 = .ok (.aload_n 0, 1) := by decide +kernel
theorem dX2_mostAsked_14 : decode cX2_mostAsked 14 = .ok (.getfield 9, 3) := by decide +kernel
theorem dX2_mostAsked_17 : decode cX2_mostAsked 17 = .ok (.iload_n 2, 1) := by decide +kernel
theorem dX2_mostAsked_18 : decode cX2_mostAsked 18 = .ok (.iaload, 1) := by decide +kernel
theorem dX2_mostAsked_19 : decode cX2_mostAsked 19 = .ok (.invokestatic 76, 3) := by decide +kernel
theorem dX2_mostAsked_22 : decode cX2_mostAsked 22 = .ok (.istore_n 1, 1) := by decide +kernel
theorem dX2_mostAsked_23 : decode cX2_mostAsked 23 = .ok (.iinc 2 1, 3) := by decide +kernel
theorem dX2_mostAsked_26 : decode cX2_mostAsked 26 = .ok (.goto (-22), 3) := by decide +kernel
theorem dX2_mostAsked_29 : decode cX2_mostAsked 29 = .ok (.iload_n 1, 1) := by decide +kernel
theorem dX2_mostAsked_30 : decode cX2_mostAsked 30 = .ok (.ireturn, 1) := by decide +kernel
theorem dX2_unreadLet_0 : decode cX2_unreadLet 0 = .ok (.iconst 0, 1) := by decide +kernel
theorem dX2_unreadLet_1 : decode cX2_unreadLet 1 = .ok (.istore_n 3, 1) := by decide +kernel
theorem dX2_unreadLet_2 : decode cX2_unreadLet 2 = .ok (.iconst 0, 1) := by decide +kernel
theorem dX2_unreadLet_3 : decode cX2_unreadLet 3 = .ok (.istore 4, 2) := by decide +kernel
theorem dX2_unreadLet_5 : decode cX2_unreadLet 5 = .ok (.iload 4, 2) := by decide +kernel
theorem dX2_unreadLet_7 : decode cX2_unreadLet 7 = .ok (.bipush 30, 2) := by decide +kernel
theorem dX2_unreadLet_9 : decode cX2_unreadLet 9 = .ok (.if_icmp .gt 36, 3) := by decide +kernel
theorem dX2_unreadLet_12 : decode cX2_unreadLet 12 = .ok (.aload_n 0, 1) := by decide +kernel
theorem dX2_unreadLet_13 : decode cX2_unreadLet 13 = .ok (.getfield 40, 3) := by decide +kernel
theorem dX2_unreadLet_16 : decode cX2_unreadLet 16 = .ok (.iload 4, 2) := by decide +kernel
theorem dX2_unreadLet_18 : decode cX2_unreadLet 18 = .ok (.iconst 0, 1) := by decide +kernel
theorem dX2_unreadLet_19 : decode cX2_unreadLet 19 = .ok (.aload_n 0, 1) := by decide +kernel
theorem dX2_unreadLet_20 : decode cX2_unreadLet 20 = .ok (.getfield 9, 3) := by decide +kernel
theorem dX2_unreadLet_23 : decode cX2_unreadLet 23 = .ok (.iload_n 1, 1) := by decide +kernel
theorem dX2_unreadLet_24 : decode cX2_unreadLet 24 = .ok (.iaload, 1) := by decide +kernel
theorem dX2_unreadLet_25 : decode cX2_unreadLet 25 = .ok (.iload_n 2, 1) := by decide +kernel
theorem dX2_unreadLet_26 : decode cX2_unreadLet 26 = .ok (.invokevirtual 82, 3) := by decide +kernel
theorem dX2_unreadLet_29 : decode cX2_unreadLet 29 = .ok (.ifCond .eq 10, 3) := by decide +kernel
theorem dX2_unreadLet_32 : decode cX2_unreadLet 32 = .ok (.iload_n 3, 1) := by decide +kernel
theorem dX2_unreadLet_33 : decode cX2_unreadLet 33 = .ok (.iconst 1, 1) := by decide +kernel
theorem dX2_unreadLet_34 : decode cX2_unreadLet 34 = .ok (.iload 4, 2) := by decide +kernel
theorem dX2_unreadLet_36 : decode cX2_unreadLet 36 = .ok (.ishl, 1) := by decide +kernel
theorem dX2_unreadLet_37 : decode cX2_unreadLet 37 = .ok (.ior, 1) := by decide +kernel
theorem dX2_unreadLet_38 : decode cX2_unreadLet 38 = .ok (.istore_n 3, 1) := by decide +kernel
theorem dX2_unreadLet_39 : decode cX2_unreadLet 39 = .ok (.iinc 4 1, 3) := by decide +kernel
theorem dX2_unreadLet_42 : decode cX2_unreadLet 42 = .ok (.goto (-37), 3) := by decide +kernel
theorem dX2_unreadLet_45 : decode cX2_unreadLet 45 = .ok (.iload_n 3, 1) := by decide +kernel
theorem dX2_unreadLet_46 : decode cX2_unreadLet 46 = .ok (.ireturn, 1) := by decide +kernel
theorem dX3_read_0 : decode cX3_read 0 = .ok (.aload_n 2, 1) := by decide +kernel
theorem dX3_read_1 : decode cX3_read 1 = .ok (.invokevirtual 21, 3) := by decide +kernel
theorem dX3_read_4 : decode cX3_read 4 = .ok (.aload_n 0, 1) := by decide +kernel
theorem dX3_read_5 : decode cX3_read 5 = .ok (.iconst 0, 1) := by decide +kernel
theorem dX3_read_6 : decode cX3_read 6 = .ok (.putfield 9, 3) := by decide +kernel
theorem dX3_read_9 : decode cX3_read 9 = .ok (.aload_n 0, 1) := by decide +kernel
theorem dX3_read_10 : decode cX3_read 10 = .ok (.iconst 0, 1) := by decide +kernel
theorem dX3_read_11 : decode cX3_read 11 = .ok (.putfield 15, 3) := by decide +kernel
theorem dX3_read_14 : decode cX3_read 14 = .ok (.aload_n 0, 1) := by decide +kernel
theorem dX3_read_15 : decode cX3_read 15 = .ok (.iconst 0, 1) := by decide +kernel
theorem dX3_read_16 : decode cX3_read 16 = .ok (.putfield 18, 3) := by decide +kernel
theorem dX3_read_19 : decode cX3_read 19 = .ok (.aload_n 1, 1) := by decide +kernel
theorem dX3_read_20 : decode cX3_read 20 = .ok (.invokevirtual 26, 3) := by decide +kernel
theorem dX3_read_23 : decode cX3_read 23 = .ok (.iconst 0, 1) := by decide +kernel
theorem dX3_read_24 : decode cX3_read 24 = .ok (.istore_n 3, 1) := by decide +kernel
theorem dX3_read_25 : decode cX3_read 25 = .ok (.iload_n 3, 1) := by decide +kernel
theorem dX3_read_26 : decode cX3_read 26 = .ok (.sipush 1000, 3) := by decide +kernel
theorem dX3_read_29 : decode cX3_read 29 = .ok (.if_icmp .ge 40, 3) := by decide +kernel
theorem dX3_read_32 : decode cX3_read 32 = .ok (.aload_n 1, 1) := by decide +kernel
theorem dX3_read_33 : decode cX3_read 33 = .ok (.getfield 31, 3) := by decide +kernel
theorem dX3_read_36 : decode cX3_read 36 = .ok (.getstatic 35, 3) := by decide +kernel
theorem dX3_read_39 : decode cX3_read 39 = .ok (.if_acmp .eq 30, 3) := by decide +kernel
theorem dX3_read_42 : decode cX3_read 42 = .ok (.aload_n 0, 1) := by decide +kernel
theorem dX3_read_43 : decode cX3_read 43 = .ok (.aload_n 1, 1) := by decide +kernel
theorem dX3_read_44 : decode cX3_read 44 = .ok (.aload_n 2, 1) := by decide +kernel
theorem dX3_read_45 : decode cX3_read 45 = .ok (.invokevirtual 40, 3) := by decide +kernel
theorem dX3_read_48 : decode cX3_read 48 = .ok (.ifCond .eq 13, 3) := by decide +kernel
theorem dX3_read_51 : decode cX3_read 51 = .ok (.aload_n 1, 1) := by decide +kernel
theorem dX3_read_52 : decode cX3_read 52 = .ok (.getstatic 44, 3) := by decide +kernel
theorem dX3_read_55 : decode cX3_read 55 = .ok (.invokevirtual 47, 3) := by decide +kernel
theorem dX3_read_58 : decode cX3_read 58 = .ok (.ifCond .ne 5, 3) := by decide +kernel
theorem dX3_read_61 : decode cX3_read 61 = .ok (.iconst 0, 1) := by decide +kernel
theorem dX3_read_62 : decode cX3_read 62 = .ok (.ireturn, 1) := by decide +kernel
theorem dX3_read_63 : decode cX3_read 63 = .ok (.iinc 3 1, 3) := by decide +kernel
theorem dX3_read_66 : decode cX3_read 66 = .ok (.goto (-41), 3) := by decide +kernel
theorem dX3_read_69 : decode cX3_read 69 = .ok (.iconst 1, 1) := by decide +kernel
theorem dX3_read_70 : decode cX3_read 70 = .ok (.ireturn, 1) := by decide +kernel
theorem dX3_readLine_0 : decode cX3_readLine 0 = .ok (.aload_n 1, 1) := by decide +kernel
theorem dX3_readLine_1 : decode cX3_readLine 1 = .ok (.getfield 31, 3) := by decide +kernel
theorem dX3_readLine_4 : decode cX3_readLine 4 = .ok (.getstatic 51, 3) := by decide +kernel
theorem dX3_readLine_7 : decode cX3_readLine 7 = .ok (.if_acmp .ne 10, 3) := by decide +kernel
theorem dX3_readLine_10 : decode cX3_readLine 10 = .ok (.aload_n 0, 1) := by decide +kernel
theorem dX3_readLine_11 : decode cX3_readLine 11 = .ok (.aload_n 1, 1) := by decide +kernel
theorem dX3_readLine_12 : decode cX3_readLine 12 = .ok (.aload_n 2, 1) := by decide +kernel
theorem dX3_readLine_13 : decode cX3_readLine 13 = .ok (.invokevirtual 54, 3) := by decide +kernel
theorem dX3_readLine_16 : decode cX3_readLine 16 = .ok (.ireturn, 1) := by decide +kernel
theorem dX3_readLine_17 : decode cX3_readLine 17 = .ok (.aload_n 1, 1) := by decide +kernel
theorem dX3_readLine_18 : decode cX3_readLine 18 = .ok (.getfield 31, 3) := by decide +kernel
theorem dX3_readLine_21 : decode cX3_readLine 21 = .ok (.getstatic 57, 3) := by decide +kernel
theorem dX3_readLine_24 : decode cX3_readLine 24 = .ok (.if_acmp .ne 10, 3) := by decide +kernel
theorem dX3_readLine_27 : decode cX3_readLine 27 = .ok (.aload_n 0, 1) := by decide +kernel
theorem dX3_readLine_28 : decode cX3_readLine 28 = .ok (.aload_n 1, 1) := by decide +kernel
theorem dX3_readLine_29 : decode cX3_readLine 29 = .ok (.aload_n 2, 1) := by decide +kernel
theorem dX3_readLine_30 : decode cX3_readLine 30 = .ok (.invokevirtual 60, 3) := by decide +kernel
theorem dX3_readLine_33 : decode cX3_readLine 33 = .ok (.ireturn, 1) := by decide +kernel
theorem dX3_readLine_34 : decode cX3_readLine 34 = .ok (.aload_n 1, 1) := by decide +kernel
theorem dX3_readLine_35 : decode cX3_readLine 35 = .ok (.getfield 31, 3) := by decide +kernel
theorem dX3_readLine_38 : decode cX3_readLine 38 = .ok (.getstatic 63, 3) := by decide +kernel
theorem dX3_readLine_41 : decode cX3_readLine 41 = .ok (.if_acmp .ne 33, 3) := by decide +kernel
theorem dX3_readLine_44 : decode cX3_readLine 44 = .ok (.aload_n 0, 1) := by decide +kernel
theorem dX3_readLine_45 : decode cX3_readLine 45 = .ok (.aload_n 1, 1) := by decide +kernel
theorem dX3_readLine_46 : decode cX3_readLine 46 = .ok (.aload_n 2, 1) := by decide +kernel
theorem dX3_readLine_47 : decode cX3_readLine 47 = .ok (.invokevirtual 66, 3) := by decide +kernel
theorem dX3_readLine_50 : decode cX3_readLine 50 = .ok (.ifCond .eq 22, 3) := by decide +kernel
theorem dX3_readLine_53 : decode cX3_readLine 53 = .ok (.aload_n 0, 1) := by decide +kernel
theorem dX3_readLine_54 : decode cX3_readLine 54 = .ok (.aload_n 1, 1) := by decide +kernel
theorem dX3_readLine_55 : decode cX3_readLine 55 = .ok (.aload_n 2, 1) := by decide +kernel
theorem dX3_readLine_56 : decode cX3_readLine 56 = .ok (.aload_n 2, 1) := by decide +kernel
theorem dX3_readLine_57 : decode cX3_readLine 57 = .ok (.getfield 69, 3) := by decide +kernel
theorem dX3_readLine_60 : decode cX3_readLine 60 = .ok (.iconst 1, 1) := by decide +kernel
theorem dX3_readLine_61 : decode cX3_readLine 61 = .ok (.isub, 1) := by decide +kernel
theorem dX3_readLine_62 : decode cX3_readLine 62 = .ok (.invokevirtual 73, 3) := by decide +kernel
theorem dX3_readLine_65 : decode cX3_readLine 65 = .ok (.ifCond .eq 7, 3) := by decide +kernel
theorem dX3_readLine_68 : decode cX3_readLine 68 = .ok (.iconst 1, 1) := by decide +kernel
theorem dX3_readLine_69 : decode cX3_readLine 69 = .ok (.goto 4, 3) := by decide +kernel
theorem dX3_readLine_72 : decode cX3_readLine 72 = .ok (.iconst 0, 1) := by decide +kernel
theorem dX3_readLine_73 : decode cX3_readLine 73 = .ok (.ireturn, 1) := by decide +kernel
theorem dX3_readLine_74 : decode cX3_readLine 74 = .ok (.aload_n 1, 1) := by decide +kernel
theorem dX3_readLine_75 : decode cX3_readLine 75 = .ok (.getfield 31, 3) := by decide +kernel
theorem dX3_readLine_78 : decode cX3_readLine 78 = .ok (.getstatic 77, 3) := by decide +kernel
theorem dX3_readLine_81 : decode cX3_readLine 81 = .ok (.if_acmp .ne 10, 3) := by decide +kernel
theorem dX3_readLine_84 : decode cX3_readLine 84 = .ok (.aload_n 0, 1) := by decide +kernel
theorem dX3_readLine_85 : decode cX3_readLine 85 = .ok (.aload_n 1, 1) := by decide +kernel
theorem dX3_readLine_86 : decode cX3_readLine 86 = .ok (.aload_n 2, 1) := by decide +kernel
theorem dX3_readLine_87 : decode cX3_readLine 87 = .ok (.invokevirtual 80, 3) := by decide +kernel
theorem dX3_readLine_90 : decode cX3_readLine 90 = .ok (.ireturn, 1) := by decide +kernel
theorem dX3_readLine_91 : decode cX3_readLine 91 = .ok (.aload_n 1, 1) := by decide +kernel
theorem dX3_readLine_92 : decode cX3_readLine 92 = .ok (.getfield 31, 3) := by decide +kernel
theorem dX3_readLine_95 : decode cX3_readLine 95 = .ok (.getstatic 83, 3) := by decide +kernel
theorem dX3_readLine_98 : decode cX3_readLine 98 = .ok (.if_acmp .ne 10, 3) := by decide +kernel
theorem dX3_readLine_101 : decode cX3_readLine 101 = .ok (.aload_n 0, 1) := by decide +kernel
theorem dX3_readLine_102 : decode cX3_readLine 102 = .ok (.aload_n 1, 1) := by decide +kernel
theorem dX3_readLine_103 : decode cX3_readLine 103 = .ok (.aload_n 2, 1) := by decide +kernel
theorem dX3_readLine_104 : decode cX3_readLine 104 = .ok (.invokevirtual 86, 3) := by decide +kernel
theorem dX3_readLine_107 : decode cX3_readLine 107 = .ok (.ireturn, 1) := by decide +kernel
theorem dX3_readLine_108 : decode cX3_readLine 108 = .ok (.aload_n 1, 1) := by decide +kernel
theorem dX3_readLine_109 : decode cX3_readLine 109 = .ok (.getfield 31, 3) := by decide +kernel
theorem dX3_readLine_112 : decode cX3_readLine 112 = .ok (.getstatic 89, 3) := by decide +kernel
theorem dX3_readLine_115 : decode cX3_readLine 115 = .ok (.if_acmp .ne 30, 3) := by decide +kernel
theorem dX3_readLine_118 : decode cX3_readLine 118 = .ok (.aload_n 0, 1) := by decide +kernel
theorem dX3_readLine_119 : decode cX3_readLine 119 = .ok (.aload_n 1, 1) := by decide +kernel
theorem dX3_readLine_120 : decode cX3_readLine 120 = .ok (.aload_n 2, 1) := by decide +kernel
theorem dX3_readLine_121 : decode cX3_readLine 121 = .ok (.invokevirtual 92, 3) := by decide +kernel
theorem dX3_readLine_124 : decode cX3_readLine 124 = .ok (.ifCond .eq 19, 3) := by decide +kernel
theorem dX3_readLine_127 : decode cX3_readLine 127 = .ok (.aload_n 2, 1) := by decide +kernel
theorem dX3_readLine_128 : decode cX3_readLine 128 = .ok (.getfield 95, 3) := by decide +kernel
theorem dX3_readLine_131 : decode cX3_readLine 131 = .ok (.aload_n 1, 1) := by decide +kernel
theorem dX3_readLine_132 : decode cX3_readLine 132 = .ok (.iconst 0, 1) := by decide +kernel
theorem dX3_readLine_133 : decode cX3_readLine 133 = .ok (.invokevirtual 99, 3) := by decide +kernel
theorem dX3_readLine_136 : decode cX3_readLine 136 = .ok (.ifCond .eq 7, 3) := by decide +kernel
theorem dX3_readLine_139 : decode cX3_readLine 139 = .ok (.iconst 1, 1) := by decide +kernel
theorem dX3_readLine_140 : decode cX3_readLine 140 = .ok (.goto 4, 3) := by decide +kernel
theorem dX3_readLine_143 : decode cX3_readLine 143 = .ok (.iconst 0, 1) := by decide +kernel
theorem dX3_readLine_144 : decode cX3_readLine 144 = .ok (.ireturn, 1) := by decide +kernel
theorem dX3_readLine_145 : decode cX3_readLine 145 = .ok (.aload_n 1, 1) := by decide +kernel
theorem dX3_readLine_146 : decode cX3_readLine 146 = .ok (.iconst 1, 1) := by decide +kernel
theorem dX3_readLine_147 : decode cX3_readLine 147 = .ok (.invokevirtual 105, 3) := by decide +kernel
theorem dX3_readLine_150 : decode cX3_readLine 150 = .ok (.ireturn, 1) := by decide +kernel
theorem dX3_readTown_0 : decode cX3_readTown 0 = .ok (.aload_n 2, 1) := by decide +kernel
theorem dX3_readTown_1 : decode cX3_readTown 1 = .ok (.getfield 109, 3) := by decide +kernel
theorem dX3_readTown_4 : decode cX3_readTown 4 = .ok (.istore_n 3, 1) := by decide +kernel
theorem dX3_readTown_5 : decode cX3_readTown 5 = .ok (.iload_n 3, 1) := by decide +kernel
theorem dX3_readTown_6 : decode cX3_readTown 6 = .ok (.bipush 6, 2) := by decide +kernel
theorem dX3_readTown_8 : decode cX3_readTown 8 = .ok (.if_icmp .lt 9, 3) := by decide +kernel
theorem dX3_readTown_11 : decode cX3_readTown 11 = .ok (.aload_n 1, 1) := by decide +kernel
theorem dX3_readTown_12 : decode cX3_readTown 12 = .ok (.iconst 5, 1) := by decide +kernel
theorem dX3_readTown_13 : decode cX3_readTown 13 = .ok (.invokevirtual 105, 3) := by decide +kernel
theorem dX3_readTown_16 : decode cX3_readTown 16 = .ok (.ireturn, 1) := by decide +kernel
theorem dX3_readTown_17 : decode cX3_readTown 17 = .ok (.aload_n 1, 1) := by decide +kernel
theorem dX3_readTown_18 : decode cX3_readTown 18 = .ok (.invokevirtual 112, 3) := by decide +kernel
theorem dX3_readTown_21 : decode cX3_readTown 21 = .ok (.aload_n 1, 1) := by decide +kernel
theorem dX3_readTown_22 : decode cX3_readTown 22 = .ok (.aload_n 2, 1) := by decide +kernel
theorem dX3_readTown_23 : decode cX3_readTown 23 = .ok (.invokestatic 115, 3) := by decide +kernel
theorem dX3_readTown_26 : decode cX3_readTown 26 = .ok (.ifCond .ne 5, 3) := by decide +kernel
theorem dX3_readTown_29 : decode cX3_readTown 29 = .ok (.iconst 0, 1) := by decide +kernel
theorem dX3_readTown_30 : decode cX3_readTown 30 = .ok (.ireturn, 1) := by decide +kernel
theorem dX3_readTown_31 : decode cX3_readTown 31 = .ok (.aload_n 2, 1) := by decide +kernel
theorem dX3_readTown_32 : decode cX3_readTown 32 = .ok (.getfield 118, 3) := by decide +kernel
theorem dX3_readTown_35 : decode cX3_readTown 35 = .ok (.iload_n 3, 1) := by decide +kernel
theorem dX3_readTown_36 : decode cX3_readTown 36 = .ok (.aload_n 1, 1) := by decide +kernel
theorem dX3_readTown_37 : decode cX3_readTown 37 = .ok (.getfield 122, 3) := by decide +kernel
theorem dX3_readTown_40 : decode cX3_readTown 40 = .ok (.lastore, 1) := by decide +kernel
theorem dX3_readTown_41 : decode cX3_readTown 41 = .ok (.aload_n 1, 1) := by decide +kernel
theorem dX3_readTown_42 : decode cX3_readTown 42 = .ok (.invokevirtual 112, 3) := by decide +kernel
theorem dX3_readTown_45 : decode cX3_readTown 45 = .ok (.aload_n 1, 1) := by decide +kernel
