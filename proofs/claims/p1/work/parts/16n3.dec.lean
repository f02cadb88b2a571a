theorem dX12_rests_126 : decode cX12_rests 126 = .ok (.iinc 4 1, 3) := by decide +kernel
theorem dX12_rests_129 : decode cX12_rests 129 = .ok (.iinc 5 1, 3) := by decide +kernel
theorem dX12_rests_132 : decode cX12_rests 132 = .ok (.goto (-82), 3) := by decide +kernel
theorem dX12_rests_135 : decode cX12_rests 135 = .ok (.aload_n 0, 1) := by decide +kernel
theorem dX12_rests_136 : decode cX12_rests 136 = .ok (.iload_n 3, 1) := by decide +kernel
theorem dX12_rests_137 : decode cX12_rests 137 = .ok (.iconst (-1), 1) := by decide +kernel
theorem dX12_rests_138 : decode cX12_rests 138 = .ok (.if_icmp .ne 7, 3) := by decide +kernel
theorem dX12_rests_141 : decode cX12_rests 141 = .ok (.iconst 0, 1) := by decide +kernel
theorem dX12_rests_142 : decode cX12_rests 142 = .ok (.goto 4, 3) := by decide +kernel
theorem dX12_rests_145 : decode cX12_rests 145 = .ok (.iconst 1, 1) := by decide +kernel
theorem dX12_rests_146 : decode cX12_rests 146 = .ok (.putfield 129, 3) := by decide +kernel
theorem dX12_rests_149 : decode cX12_rests 149 = .ok (.iload_n 3, 1) := by decide +kernel
theorem dX12_rests_150 : decode cX12_rests 150 = .ok (.iconst (-1), 1) := by decide +kernel
theorem dX12_rests_151 : decode cX12_rests 151 = .ok (.if_icmp .ne 8, 3) := by decide +kernel
theorem dX12_rests_154 : decode cX12_rests 154 = .ok (.iload 4, 2) := by decide +kernel
theorem dX12_rests_156 : decode cX12_rests 156 = .ok (.goto 4, 3) := by decide +kernel
theorem dX12_rests_159 : decode cX12_rests 159 = .ok (.iconst 0, 1) := by decide +kernel
theorem dX12_rests_160 : decode cX12_rests 160 = .ok (.ireturn, 1) := by decide +kernel
theorem dL_rests_0 : decode cL_rests 0 = .ok (.aload 4, 2) := by decide +kernel
theorem dL_rests_2 : decode cL_rests 2 = .ok (.iconst 0, 1) := by decide +kernel
theorem dL_rests_3 : decode cL_rests 3 = .ok (.aload_n 0, 1) := by decide +kernel
theorem dL_rests_4 : decode cL_rests 4 = .ok (.iload_n 1, 1) := by decide +kernel
theorem dL_rests_5 : decode cL_rests 5 = .ok (.iload_n 2, 1) := by decide +kernel
theorem dL_rests_6 : decode cL_rests 6 = .ok (.iload_n 3, 1) := by decide +kernel
theorem dL_rests_7 : decode cL_rests 7 = .ok (.invokevirtual 7, 3) := by decide +kernel
theorem dL_rests_10 : decode cL_rests 10 = .ok (.i2l, 1) := by decide +kernel
theorem dL_rests_11 : decode cL_rests 11 = .ok (.lastore, 1) := by decide +kernel
theorem dL_rests_12 : decode cL_rests 12 = .ok (.goto 7, 3) := by decide +kernel
theorem dL_rests_15 : decode cL_rests 15 = .ok (.astore 5, 2) := by decide +kernel
theorem dL_rests_17 : decode cL_rests 17 = .ok (.iconst 1, 1) := by decide +kernel
theorem dL_rests_18 : decode cL_rests 18 = .ok (.ireturn, 1) := by decide +kernel
theorem dL_rests_19 : decode cL_rests 19 = .ok (.iconst 0, 1) := by decide +kernel
theorem dL_rests_20 : decode cL_rests 20 = .ok (.ireturn, 1) := by decide +kernel
theorem dL_law_0 : decode cL_law 0 = .ok (.new 8, 3) := by decide +kernel
theorem dL_law_3 : decode cL_law 3 = .ok (.dup, 1) := by decide +kernel
theorem dL_law_4 : decode cL_law 4 = .ok (.invokespecial 15, 3) := by decide +kernel
theorem dL_law_7 : decode cL_law 7 = .ok (.astore_n 1, 1) := by decide +kernel
theorem dL_law_8 : decode cL_law 8 = .ok (.new 16, 3) := by decide +kernel
theorem dL_law_11 : decode cL_law 11 = .ok (.dup, 1) := by decide +kernel
theorem dL_law_12 : decode cL_law 12 = .ok (.invokespecial 18, 3) := by decide +kernel
theorem dL_law_15 : decode cL_law 15 = .ok (.astore_n 2, 1) := by decide +kernel
theorem dL_law_16 : decode cL_law 16 = .ok (.iconst 1, 1) := by decide +kernel
theorem dL_law_17 : decode cL_law 17 = .ok (.newarray .long, 2) := by decide +kernel
theorem dL_law_19 : decode cL_law 19 = .ok (.astore_n 3, 1) := by decide +kernel
theorem dL_law_20 : decode cL_law 20 = .ok (.iconst 0, 1) := by decide +kernel
theorem dL_law_21 : decode cL_law 21 = .ok (.istore 4, 2) := by decide +kernel
theorem dL_law_23 : decode cL_law 23 = .ok (.iload 4, 2) := by decide +kernel
theorem dL_law_25 : decode cL_law 25 = .ok (.aload_n 0, 1) := by decide +kernel
theorem dL_law_26 : decode cL_law 26 = .ok (.arraylength, 1) := by decide +kernel
theorem dL_law_27 : decode cL_law 27 = .ok (.bipush 7, 2) := by decide +kernel
theorem dL_law_29 : decode cL_law 29 = .ok (.isub, 1) := by decide +kernel
theorem dL_law_30 : decode cL_law 30 = .ok (.if_icmp .gt 1282, 3) := by decide +kernel
theorem dL_law_33 : decode cL_law 33 = .ok (.aload_n 0, 1) := by decide +kernel
theorem dL_law_34 : decode cL_law 34 = .ok (.iload 4, 2) := by decide +kernel
theorem dL_law_36 : decode cL_law 36 = .ok (.iaload, 1) := by decide +kernel
theorem dL_law_37 : decode cL_law 37 = .ok (.bipush 63, 2) := by decide +kernel
theorem dL_law_39 : decode cL_law 39 = .ok (.iand, 1) := by decide +kernel
theorem dL_law_40 : decode cL_law 40 = .ok (.tableswitch 1266 0 32 #[148, 295, 308, 321, 358, 395, 432, 469, 494, 507, 520, 545, 570, 607, 644, 669, 706, 743, 768, 805, 818, 843, 868, 905, 918, 931, 984, 1009, 1022, 1059, 1139, 1188, 1241], 148) := by decide +kernel
theorem dL_law_188 : decode cL_law 188 = .ok (.aload_n 1, 1) := by decide +kernel
theorem dL_law_189 : decode cL_law 189 = .ok (.aload_n 0, 1) := by decide +kernel
theorem dL_law_190 : decode cL_law 190 = .ok (.iload 4, 2) := by decide +kernel
theorem dL_law_192 : decode cL_law 192 = .ok (.iconst 1, 1) := by decide +kernel
theorem dL_law_193 : decode cL_law 193 = .ok (.iadd, 1) := by decide +kernel
theorem dL_law_194 : decode cL_law 194 = .ok (.iaload, 1) := by decide +kernel
theorem dL_law_195 : decode cL_law 195 = .ok (.i2l, 1) := by decide +kernel
theorem dL_law_196 : decode cL_law 196 = .ok (.bipush 32, 2) := by decide +kernel
theorem dL_law_198 : decode cL_law 198 = .ok (.lshl, 1) := by decide +kernel
theorem dL_law_199 : decode cL_law 199 = .ok (.aload_n 0, 1) := by decide +kernel
theorem dL_law_200 : decode cL_law 200 = .ok (.iload 4, 2) := by decide +kernel
theorem dL_law_202 : decode cL_law 202 = .ok (.iconst 2, 1) := by decide +kernel
