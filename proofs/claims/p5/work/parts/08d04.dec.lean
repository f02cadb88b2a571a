theorem dX12_lays_111 : decode cX12_lays 111 = .ok (.iconst 1, 1) := by decide +kernel
theorem dX12_lays_112 : decode cX12_lays 112 = .ok (.iaload, 1) := by decide +kernel
theorem dX12_lays_113 : decode cX12_lays 113 = .ok (.sipush 1000, 3) := by decide +kernel
theorem dX12_lays_116 : decode cX12_lays 116 = .ok (.isub, 1) := by decide +kernel
theorem dX12_lays_117 : decode cX12_lays 117 = .ok (.iastore, 1) := by decide +kernel
theorem dX12_lays_118 : decode cX12_lays 118 = .ok (.return_, 1) := by decide +kernel
theorem dX12_copies_0 : decode cX12_copies 0 = .ok (.iconst 0, 1) := by decide +kernel
theorem dX12_copies_1 : decode cX12_copies 1 = .ok (.istore 4, 2) := by decide +kernel
theorem dX12_copies_3 : decode cX12_copies 3 = .ok (.iload 4, 2) := by decide +kernel
theorem dX12_copies_5 : decode cX12_copies 5 = .ok (.bipush 31, 2) := by decide +kernel
theorem dX12_copies_7 : decode cX12_copies 7 = .ok (.if_icmp .ge 21, 3) := by decide +kernel
theorem dX12_copies_10 : decode cX12_copies 10 = .ok (.aload_n 2, 1) := by decide +kernel
theorem dX12_copies_11 : decode cX12_copies 11 = .ok (.iload_n 3, 1) := by decide +kernel
theorem dX12_copies_12 : decode cX12_copies 12 = .ok (.iload 4, 2) := by decide +kernel
theorem dX12_copies_14 : decode cX12_copies 14 = .ok (.iadd, 1) := by decide +kernel
theorem dX12_copies_15 : decode cX12_copies 15 = .ok (.aload_n 0, 1) := by decide +kernel
theorem dX12_copies_16 : decode cX12_copies 16 = .ok (.iload_n 1, 1) := by decide +kernel
theorem dX12_copies_17 : decode cX12_copies 17 = .ok (.iload 4, 2) := by decide +kernel
theorem dX12_copies_19 : decode cX12_copies 19 = .ok (.iadd, 1) := by decide +kernel
theorem dX12_copies_20 : decode cX12_copies 20 = .ok (.iaload, 1) := by decide +kernel
theorem dX12_copies_21 : decode cX12_copies 21 = .ok (.iastore, 1) := by decide +kernel
theorem dX12_copies_22 : decode cX12_copies 22 = .ok (.iinc 4 1, 3) := by decide +kernel
theorem dX12_copies_25 : decode cX12_copies 25 = .ok (.goto (-22), 3) := by decide +kernel
theorem dX12_copies_28 : decode cX12_copies 28 = .ok (.return_, 1) := by decide +kernel
theorem dX12_readsLine_0 : decode cX12_readsLine 0 = .ok (.aload_n 0, 1) := by decide +kernel
theorem dX12_readsLine_1 : decode cX12_readsLine 1 = .ok (.ldc2_w 236, 3) := by decide +kernel
theorem dX12_readsLine_4 : decode cX12_readsLine 4 = .ok (.invokevirtual 185, 3) := by decide +kernel
theorem dX12_readsLine_7 : decode cX12_readsLine 7 = .ok (.ifCond .eq 7, 3) := by decide +kernel
theorem dX12_readsLine_10 : decode cX12_readsLine 10 = .ok (.iconst 0, 1) := by decide +kernel
theorem dX12_readsLine_11 : decode cX12_readsLine 11 = .ok (.goto 46, 3) := by decide +kernel
theorem dX12_readsLine_14 : decode cX12_readsLine 14 = .ok (.aload_n 0, 1) := by decide +kernel
theorem dX12_readsLine_15 : decode cX12_readsLine 15 = .ok (.ldc2_w 238, 3) := by decide +kernel
theorem dX12_readsLine_18 : decode cX12_readsLine 18 = .ok (.invokevirtual 185, 3) := by decide +kernel
theorem dX12_readsLine_21 : decode cX12_readsLine 21 = .ok (.ifCond .eq 7, 3) := by decide +kernel
theorem dX12_readsLine_24 : decode cX12_readsLine 24 = .ok (.iconst 1, 1) := by decide +kernel
theorem dX12_readsLine_25 : decode cX12_readsLine 25 = .ok (.goto 32, 3) := by decide +kernel
theorem dX12_readsLine_28 : decode cX12_readsLine 28 = .ok (.aload_n 0, 1) := by decide +kernel
theorem dX12_readsLine_29 : decode cX12_readsLine 29 = .ok (.ldc2_w 240, 3) := by decide +kernel
theorem dX12_readsLine_32 : decode cX12_readsLine 32 = .ok (.invokevirtual 185, 3) := by decide +kernel
theorem dX12_readsLine_35 : decode cX12_readsLine 35 = .ok (.ifCond .eq 7, 3) := by decide +kernel
theorem dX12_readsLine_38 : decode cX12_readsLine 38 = .ok (.iconst 2, 1) := by decide +kernel
theorem dX12_readsLine_39 : decode cX12_readsLine 39 = .ok (.goto 18, 3) := by decide +kernel
theorem dX12_readsLine_42 : decode cX12_readsLine 42 = .ok (.aload_n 0, 1) := by decide +kernel
theorem dX12_readsLine_43 : decode cX12_readsLine 43 = .ok (.ldc2_w 242, 3) := by decide +kernel
theorem dX12_readsLine_46 : decode cX12_readsLine 46 = .ok (.invokevirtual 185, 3) := by decide +kernel
theorem dX12_readsLine_49 : decode cX12_readsLine 49 = .ok (.ifCond .eq 7, 3) := by decide +kernel
theorem dX12_readsLine_52 : decode cX12_readsLine 52 = .ok (.iconst 3, 1) := by decide +kernel
theorem dX12_readsLine_53 : decode cX12_readsLine 53 = .ok (.goto 4, 3) := by decide +kernel
theorem dX12_readsLine_56 : decode cX12_readsLine 56 = .ok (.iconst (-1), 1) := by decide +kernel
theorem dX12_readsLine_57 : decode cX12_readsLine 57 = .ok (.istore_n 1, 1) := by decide +kernel
theorem dX12_readsLine_58 : decode cX12_readsLine 58 = .ok (.iload_n 1, 1) := by decide +kernel
theorem dX12_readsLine_59 : decode cX12_readsLine 59 = .ok (.ifCond .ge 9, 3) := by decide +kernel
theorem dX12_readsLine_62 : decode cX12_readsLine 62 = .ok (.aload_n 0, 1) := by decide +kernel
theorem dX12_readsLine_63 : decode cX12_readsLine 63 = .ok (.iconst 1, 1) := by decide +kernel
theorem dX12_readsLine_64 : decode cX12_readsLine 64 = .ok (.invokevirtual 193, 3) := by decide +kernel
theorem dX12_readsLine_67 : decode cX12_readsLine 67 = .ok (.ireturn, 1) := by decide +kernel
theorem dX12_readsLine_68 : decode cX12_readsLine 68 = .ok (.aload_n 0, 1) := by decide +kernel
theorem dX12_readsLine_69 : decode cX12_readsLine 69 = .ok (.getfield 87, 3) := by decide +kernel
theorem dX12_readsLine_72 : decode cX12_readsLine 72 = .ok (.iconst 5, 1) := by decide +kernel
theorem dX12_readsLine_73 : decode cX12_readsLine 73 = .ok (.iaload, 1) := by decide +kernel
theorem dX12_readsLine_74 : decode cX12_readsLine 74 = .ok (.bipush 40, 2) := by decide +kernel
theorem dX12_readsLine_76 : decode cX12_readsLine 76 = .ok (.if_icmp .ne 9, 3) := by decide +kernel
theorem dX12_readsLine_79 : decode cX12_readsLine 79 = .ok (.aload_n 0, 1) := by decide +kernel
theorem dX12_readsLine_80 : decode cX12_readsLine 80 = .ok (.iconst 5, 1) := by decide +kernel
theorem dX12_readsLine_81 : decode cX12_readsLine 81 = .ok (.invokevirtual 193, 3) := by decide +kernel
theorem dX12_readsLine_84 : decode cX12_readsLine 84 = .ok (.ireturn, 1) := by decide +kernel
theorem dX12_readsLine_85 : decode cX12_readsLine 85 = .ok (.aload_n 0, 1) := by decide +kernel
theorem dX12_readsLine_86 : decode cX12_readsLine 86 = .ok (.invokevirtual 200, 3) := by decide +kernel
theorem dX12_readsLine_89 : decode cX12_readsLine 89 = .ok (.sipush 200, 3) := by decide +kernel
theorem dX12_readsLine_92 : decode cX12_readsLine 92 = .ok (.aload_n 0, 1) := by decide +kernel
theorem dX12_readsLine_93 : decode cX12_readsLine 93 = .ok (.getfield 87, 3) := by decide +kernel
theorem dX12_readsLine_96 : decode cX12_readsLine 96 = .ok (.iconst 5, 1) := by decide +kernel
theorem dX12_readsLine_97 : decode cX12_readsLine 97 = .ok (.iaload, 1) := by decide +kernel
theorem dX12_readsLine_98 : decode cX12_readsLine 98 = .ok (.iadd, 1) := by decide +kernel
theorem dX12_readsLine_99 : decode cX12_readsLine 99 = .ok (.istore_n 2, 1) := by decide +kernel
theorem dX12_readsLine_100 : decode cX12_readsLine 100 = .ok (.aload_n 0, 1) := by decide +kernel
theorem dX12_readsLine_101 : decode cX12_readsLine 101 = .ok (.getfield 90, 3) := by decide +kernel
theorem dX12_readsLine_104 : decode cX12_readsLine 104 = .ok (.iload_n 2, 1) := by decide +kernel
theorem dX12_readsLine_105 : decode cX12_readsLine 105 = .ok (.iload_n 1, 1) := by decide +kernel
theorem dX12_readsLine_106 : decode cX12_readsLine 106 = .ok (.iastore, 1) := by decide +kernel
theorem dX12_readsLine_107 : decode cX12_readsLine 107 = .ok (.iload_n 1, 1) := by decide +kernel
theorem dX12_readsLine_108 : decode cX12_readsLine 108 = .ok (.iconst 3, 1) := by decide +kernel
theorem dX12_readsLine_109 : decode cX12_readsLine 109 = .ok (.if_icmp .eq 26, 3) := by decide +kernel
theorem dX12_readsLine_112 : decode cX12_readsLine 112 = .ok (.aload_n 0, 1) := by decide +kernel
theorem dX12_readsLine_113 : decode cX12_readsLine 113 = .ok (.invokevirtual 324, 3) := by decide +kernel
theorem dX12_readsLine_116 : decode cX12_readsLine 116 = .ok (.ifCond .ne 5, 3) := by decide +kernel
theorem dX12_readsLine_119 : decode cX12_readsLine 119 = .ok (.iconst 0, 1) := by decide +kernel
theorem dX12_readsLine_120 : decode cX12_readsLine 120 = .ok (.ireturn, 1) := by decide +kernel
theorem dX12_readsLine_121 : decode cX12_readsLine 121 = .ok (.aload_n 0, 1) := by decide +kernel
theorem dX12_readsLine_122 : decode cX12_readsLine 122 = .ok (.getfield 93, 3) := by decide +kernel
theorem dX12_readsLine_125 : decode cX12_readsLine 125 = .ok (.iload_n 2, 1) := by decide +kernel
theorem dX12_readsLine_126 : decode cX12_readsLine 126 = .ok (.aload_n 0, 1) := by decide +kernel
theorem dX12_readsLine_127 : decode cX12_readsLine 127 = .ok (.getfield 256, 3) := by decide +kernel
theorem dX12_readsLine_130 : decode cX12_readsLine 130 = .ok (.iastore, 1) := by decide +kernel
theorem dX12_readsLine_131 : decode cX12_readsLine 131 = .ok (.aload_n 0, 1) := by decide +kernel
theorem dX12_readsLine_132 : decode cX12_readsLine 132 = .ok (.invokevirtual 200, 3) := by decide +kernel
theorem dX12_readsLine_135 : decode cX12_readsLine 135 = .ok (.iload_n 1, 1) := by decide +kernel
theorem dX12_readsLine_136 : decode cX12_readsLine 136 = .ok (.ifCond .ne 20, 3) := by decide +kernel
theorem dX12_readsLine_139 : decode cX12_readsLine 139 = .ok (.aload_n 0, 1) := by decide +kernel
theorem dX12_readsLine_140 : decode cX12_readsLine 140 = .ok (.iconst 0, 1) := by decide +kernel
theorem dX12_readsLine_141 : decode cX12_readsLine 141 = .ok (.invokevirtual 289, 3) := by decide +kernel
theorem dX12_readsLine_144 : decode cX12_readsLine 144 = .ok (.ifCond .ne 5, 3) := by decide +kernel
theorem dX12_readsLine_147 : decode cX12_readsLine 147 = .ok (.iconst 0, 1) := by decide +kernel
theorem dX12_readsLine_148 : decode cX12_readsLine 148 = .ok (.ireturn, 1) := by decide +kernel
theorem dX12_readsLine_149 : decode cX12_readsLine 149 = .ok (.aload_n 0, 1) := by decide +kernel
theorem dX12_readsLine_150 : decode cX12_readsLine 150 = .ok (.invokevirtual 200, 3) := by decide +kernel
theorem dX12_readsLine_153 : decode cX12_readsLine 153 = .ok (.goto 20, 3) := by decide +kernel
theorem dX12_readsLine_156 : decode cX12_readsLine 156 = .ok (.iload_n 1, 1) := by decide +kernel
theorem dX12_readsLine_157 : decode cX12_readsLine 157 = .ok (.iconst 1, 1) := by decide +kernel
theorem dX12_readsLine_158 : decode cX12_readsLine 158 = .ok (.if_icmp .ne 15, 3) := by decide +kernel
theorem dX12_readsLine_161 : decode cX12_readsLine 161 = .ok (.aload_n 0, 1) := by decide +kernel
theorem dX12_readsLine_162 : decode cX12_readsLine 162 = .ok (.iconst 1, 1) := by decide +kernel
theorem dX12_readsLine_163 : decode cX12_readsLine 163 = .ok (.bipush 20, 2) := by decide +kernel
theorem dX12_readsLine_165 : decode cX12_readsLine 165 = .ok (.invokevirtual 262, 3) := by decide +kernel
theorem dX12_readsLine_168 : decode cX12_readsLine 168 = .ok (.ifCond .ne 5, 3) := by decide +kernel
theorem dX12_readsLine_171 : decode cX12_readsLine 171 = .ok (.iconst 0, 1) := by decide +kernel
theorem dX12_readsLine_172 : decode cX12_readsLine 172 = .ok (.ireturn, 1) := by decide +kernel
theorem dX12_readsLine_173 : decode cX12_readsLine 173 = .ok (.aload_n 0, 1) := by decide +kernel
theorem dX12_readsLine_174 : decode cX12_readsLine 174 = .ok (.getfield 96, 3) := by decide +kernel
theorem dX12_readsLine_177 : decode cX12_readsLine 177 = .ok (.iload_n 2, 1) := by decide +kernel
theorem dX12_readsLine_178 : decode cX12_readsLine 178 = .ok (.aload_n 0, 1) := by decide +kernel
theorem dX12_readsLine_179 : decode cX12_readsLine 179 = .ok (.getfield 256, 3) := by decide +kernel
theorem dX12_readsLine_182 : decode cX12_readsLine 182 = .ok (.iastore, 1) := by decide +kernel
theorem dX12_readsLine_183 : decode cX12_readsLine 183 = .ok (.aload_n 0, 1) := by decide +kernel
theorem dX12_readsLine_184 : decode cX12_readsLine 184 = .ok (.getfield 87, 3) := by decide +kernel
theorem dX12_readsLine_187 : decode cX12_readsLine 187 = .ok (.iconst 5, 1) := by decide +kernel
theorem dX12_readsLine_188 : decode cX12_readsLine 188 = .ok (.dup2, 1) := by decide +kernel
theorem dX12_readsLine_189 : decode cX12_readsLine 189 = .ok (.iaload, 1) := by decide +kernel
theorem dX12_readsLine_190 : decode cX12_readsLine 190 = .ok (.iconst 1, 1) := by decide +kernel
theorem dX12_readsLine_191 : decode cX12_readsLine 191 = .ok (.iadd, 1) := by decide +kernel
theorem dX12_readsLine_192 : decode cX12_readsLine 192 = .ok (.iastore, 1) := by decide +kernel
theorem dX12_readsLine_193 : decode cX12_readsLine 193 = .ok (.aload_n 0, 1) := by decide +kernel
theorem dX12_readsLine_194 : decode cX12_readsLine 194 = .ok (.invokevirtual 286, 3) := by decide +kernel
theorem dX12_readsLine_197 : decode cX12_readsLine 197 = .ok (.ireturn, 1) := by decide +kernel
theorem dX12_laysLines_0 : decode cX12_laysLines 0 = .ok (.aload_n 0, 1) := by decide +kernel
theorem dX12_laysLines_1 : decode cX12_laysLines 1 = .ok (.getfield 87, 3) := by decide +kernel
theorem dX12_laysLines_4 : decode cX12_laysLines 4 = .ok (.iload_n 2, 1) := by decide +kernel
theorem dX12_laysLines_5 : decode cX12_laysLines 5 = .ok (.aload_n 0, 1) := by decide +kernel
theorem dX12_laysLines_6 : decode cX12_laysLines 6 = .ok (.getfield 87, 3) := by decide +kernel
theorem dX12_laysLines_9 : decode cX12_laysLines 9 = .ok (.iload_n 1, 1) := by decide +kernel
theorem dX12_laysLines_10 : decode cX12_laysLines 10 = .ok (.iaload, 1) := by decide +kernel
theorem dX12_laysLines_11 : decode cX12_laysLines 11 = .ok (.iastore, 1) := by decide +kernel
theorem dX12_laysLines_12 : decode cX12_laysLines 12 = .ok (.iconst 0, 1) := by decide +kernel
theorem dX12_laysLines_13 : decode cX12_laysLines 13 = .ok (.istore_n 3, 1) := by decide +kernel
theorem dX12_laysLines_14 : decode cX12_laysLines 14 = .ok (.iload_n 3, 1) := by decide +kernel
theorem dX12_laysLines_15 : decode cX12_laysLines 15 = .ok (.bipush 40, 2) := by decide +kernel
theorem dX12_laysLines_17 : decode cX12_laysLines 17 = .ok (.if_icmp .ge 75, 3) := by decide +kernel
theorem dX12_laysLines_20 : decode cX12_laysLines 20 = .ok (.aload_n 0, 1) := by decide +kernel
theorem dX12_laysLines_21 : decode cX12_laysLines 21 = .ok (.getfield 90, 3) := by decide +kernel
theorem dX12_laysLines_24 : decode cX12_laysLines 24 = .ok (.bipush 40, 2) := by decide +kernel
theorem dX12_laysLines_26 : decode cX12_laysLines 26 = .ok (.iload_n 2, 1) := by decide +kernel
theorem dX12_laysLines_27 : decode cX12_laysLines 27 = .ok (.imul, 1) := by decide +kernel
theorem dX12_laysLines_28 : decode cX12_laysLines 28 = .ok (.iload_n 3, 1) := by decide +kernel
theorem dX12_laysLines_29 : decode cX12_laysLines 29 = .ok (.iadd, 1) := by decide +kernel
theorem dX12_laysLines_30 : decode cX12_laysLines 30 = .ok (.aload_n 0, 1) := by decide +kernel
theorem dX12_laysLines_31 : decode cX12_laysLines 31 = .ok (.getfield 90, 3) := by decide +kernel
theorem dX12_laysLines_34 : decode cX12_laysLines 34 = .ok (.bipush 40, 2) := by decide +kernel
theorem dX12_laysLines_36 : decode cX12_laysLines 36 = .ok (.iload_n 1, 1) := by decide +kernel
theorem dX12_laysLines_37 : decode cX12_laysLines 37 = .ok (.imul, 1) := by decide +kernel
theorem dX12_laysLines_38 : decode cX12_laysLines 38 = .ok (.iload_n 3, 1) := by decide +kernel
theorem dX12_laysLines_39 : decode cX12_laysLines 39 = .ok (.iadd, 1) := by decide +kernel
theorem dX12_laysLines_40 : decode cX12_laysLines 40 = .ok (.iaload, 1) := by decide +kernel
theorem dX12_laysLines_41 : decode cX12_laysLines 41 = .ok (.iastore, 1) := by decide +kernel
theorem dX12_laysLines_42 : decode cX12_laysLines 42 = .ok (.aload_n 0, 1) := by decide +kernel
theorem dX12_laysLines_43 : decode cX12_laysLines 43 = .ok (.getfield 93, 3) := by decide +kernel
theorem dX12_laysLines_46 : decode cX12_laysLines 46 = .ok (.bipush 40, 2) := by decide +kernel
theorem dX12_laysLines_48 : decode cX12_laysLines 48 = .ok (.iload_n 2, 1) := by decide +kernel
theorem dX12_laysLines_49 : decode cX12_laysLines 49 = .ok (.imul, 1) := by decide +kernel
theorem dX12_laysLines_50 : decode cX12_laysLines 50 = .ok (.iload_n 3, 1) := by decide +kernel
theorem dX12_laysLines_51 : decode cX12_laysLines 51 = .ok (.iadd, 1) := by decide +kernel
theorem dX12_laysLines_52 : decode cX12_laysLines 52 = .ok (.aload_n 0, 1) := by decide +kernel
theorem dX12_laysLines_53 : decode cX12_laysLines 53 = .ok (.getfield 93, 3) := by decide +kernel
theorem dX12_laysLines_56 : decode cX12_laysLines 56 = .ok (.bipush 40, 2) := by decide +kernel
theorem dX12_laysLines_58 : decode cX12_laysLines 58 = .ok (.iload_n 1, 1) := by decide +kernel
theorem dX12_laysLines_59 : decode cX12_laysLines 59 = .ok (.imul, 1) := by decide +kernel
theorem dX12_laysLines_60 : decode cX12_laysLines 60 = .ok (.iload_n 3, 1) := by decide +kernel
theorem dX12_laysLines_61 : decode cX12_laysLines 61 = .ok (.iadd, 1) := by decide +kernel
theorem dX12_laysLines_62 : decode cX12_laysLines 62 = .ok (.iaload, 1) := by decide +kernel
theorem dX12_laysLines_63 : decode cX12_laysLines 63 = .ok (.iastore, 1) := by decide +kernel
theorem dX12_laysLines_64 : decode cX12_laysLines 64 = .ok (.aload_n 0, 1) := by decide +kernel
theorem dX12_laysLines_65 : decode cX12_laysLines 65 = .ok (.getfield 96, 3) := by decide +kernel
theorem dX12_laysLines_68 : decode cX12_laysLines 68 = .ok (.bipush 40, 2) := by decide +kernel
theorem dX12_laysLines_70 : decode cX12_laysLines 70 = .ok (.iload_n 2, 1) := by decide +kernel
theorem dX12_laysLines_71 : decode cX12_laysLines 71 = .ok (.imul, 1) := by decide +kernel
theorem dX12_laysLines_72 : decode cX12_laysLines 72 = .ok (.iload_n 3, 1) := by decide +kernel
theorem dX12_laysLines_73 : decode cX12_laysLines 73 = .ok (.iadd, 1) := by decide +kernel
theorem dX12_laysLines_74 : decode cX12_laysLines 74 = .ok (.aload_n 0, 1) := by decide +kernel
theorem dX12_laysLines_75 : decode cX12_laysLines 75 = .ok (.getfield 96, 3) := by decide +kernel
theorem dX12_laysLines_78 : decode cX12_laysLines 78 = .ok (.bipush 40, 2) := by decide +kernel
theorem dX12_laysLines_80 : decode cX12_laysLines 80 = .ok (.iload_n 1, 1) := by decide +kernel
theorem dX12_laysLines_81 : decode cX12_laysLines 81 = .ok (.imul, 1) := by decide +kernel
theorem dX12_laysLines_82 : decode cX12_laysLines 82 = .ok (.iload_n 3, 1) := by decide +kernel
theorem dX12_laysLines_83 : decode cX12_laysLines 83 = .ok (.iadd, 1) := by decide +kernel
theorem dX12_laysLines_84 : decode cX12_laysLines 84 = .ok (.iaload, 1) := by decide +kernel
theorem dX12_laysLines_85 : decode cX12_laysLines 85 = .ok (.iastore, 1) := by decide +kernel
theorem dX12_laysLines_86 : decode cX12_laysLines 86 = .ok (.iinc 3 1, 3) := by decide +kernel
theorem dX12_laysLines_89 : decode cX12_laysLines 89 = .ok (.goto (-75), 3) := by decide +kernel
theorem dX12_laysLines_92 : decode cX12_laysLines 92 = .ok (.return_, 1) := by decide +kernel
theorem dX12_laysSeen_0 : decode cX12_laysSeen 0 = .ok (.aload_n 0, 1) := by decide +kernel
theorem dX12_laysSeen_1 : decode cX12_laysSeen 1 = .ok (.getfield 99, 3) := by decide +kernel
theorem dX12_laysSeen_4 : decode cX12_laysSeen 4 = .ok (.iload_n 2, 1) := by decide +kernel
theorem dX12_laysSeen_5 : decode cX12_laysSeen 5 = .ok (.aload_n 0, 1) := by decide +kernel
theorem dX12_laysSeen_6 : decode cX12_laysSeen 6 = .ok (.getfield 99, 3) := by decide +kernel
theorem dX12_laysSeen_9 : decode cX12_laysSeen 9 = .ok (.iload_n 1, 1) := by decide +kernel
theorem dX12_laysSeen_10 : decode cX12_laysSeen 10 = .ok (.iaload, 1) := by decide +kernel
theorem dX12_laysSeen_11 : decode cX12_laysSeen 11 = .ok (.iastore, 1) := by decide +kernel
theorem dX12_laysSeen_12 : decode cX12_laysSeen 12 = .ok (.iconst 0, 1) := by decide +kernel
theorem dX12_laysSeen_13 : decode cX12_laysSeen 13 = .ok (.istore_n 3, 1) := by decide +kernel
theorem dX12_laysSeen_14 : decode cX12_laysSeen 14 = .ok (.iload_n 3, 1) := by decide +kernel
theorem dX12_laysSeen_15 : decode cX12_laysSeen 15 = .ok (.bipush 8, 2) := by decide +kernel
theorem dX12_laysSeen_17 : decode cX12_laysSeen 17 = .ok (.if_icmp .ge 53, 3) := by decide +kernel
theorem dX12_laysSeen_20 : decode cX12_laysSeen 20 = .ok (.aload_n 0, 1) := by decide +kernel
theorem dX12_laysSeen_21 : decode cX12_laysSeen 21 = .ok (.getfield 102, 3) := by decide +kernel
theorem dX12_laysSeen_24 : decode cX12_laysSeen 24 = .ok (.bipush 8, 2) := by decide +kernel
theorem dX12_laysSeen_26 : decode cX12_laysSeen 26 = .ok (.iload_n 2, 1) := by decide +kernel
theorem dX12_laysSeen_27 : decode cX12_laysSeen 27 = .ok (.imul, 1) := by decide +kernel
theorem dX12_laysSeen_28 : decode cX12_laysSeen 28 = .ok (.iload_n 3, 1) := by decide +kernel
theorem dX12_laysSeen_29 : decode cX12_laysSeen 29 = .ok (.iadd, 1) := by decide +kernel
theorem dX12_laysSeen_30 : decode cX12_laysSeen 30 = .ok (.aload_n 0, 1) := by decide +kernel
theorem dX12_laysSeen_31 : decode cX12_laysSeen 31 = .ok (.getfield 102, 3) := by decide +kernel
theorem dX12_laysSeen_34 : decode cX12_laysSeen 34 = .ok (.bipush 8, 2) := by decide +kernel
theorem dX12_laysSeen_36 : decode cX12_laysSeen 36 = .ok (.iload_n 1, 1) := by decide +kernel
theorem dX12_laysSeen_37 : decode cX12_laysSeen 37 = .ok (.imul, 1) := by decide +kernel
theorem dX12_laysSeen_38 : decode cX12_laysSeen 38 = .ok (.iload_n 3, 1) := by decide +kernel
theorem dX12_laysSeen_39 : decode cX12_laysSeen 39 = .ok (.iadd, 1) := by decide +kernel
theorem dX12_laysSeen_40 : decode cX12_laysSeen 40 = .ok (.iaload, 1) := by decide +kernel
theorem dX12_laysSeen_41 : decode cX12_laysSeen 41 = .ok (.iastore, 1) := by decide +kernel
theorem dX12_laysSeen_42 : decode cX12_laysSeen 42 = .ok (.aload_n 0, 1) := by decide +kernel
theorem dX12_laysSeen_43 : decode cX12_laysSeen 43 = .ok (.getfield 105, 3) := by decide +kernel
theorem dX12_laysSeen_46 : decode cX12_laysSeen 46 = .ok (.bipush 8, 2) := by decide +kernel
theorem dX12_laysSeen_48 : decode cX12_laysSeen 48 = .ok (.iload_n 2, 1) := by decide +kernel
theorem dX12_laysSeen_49 : decode cX12_laysSeen 49 = .ok (.imul, 1) := by decide +kernel
theorem dX12_laysSeen_50 : decode cX12_laysSeen 50 = .ok (.iload_n 3, 1) := by decide +kernel
theorem dX12_laysSeen_51 : decode cX12_laysSeen 51 = .ok (.iadd, 1) := by decide +kernel
theorem dX12_laysSeen_52 : decode cX12_laysSeen 52 = .ok (.aload_n 0, 1) := by decide +kernel
theorem dX12_laysSeen_53 : decode cX12_laysSeen 53 = .ok (.getfield 105, 3) := by decide +kernel
theorem dX12_laysSeen_56 : decode cX12_laysSeen 56 = .ok (.bipush 8, 2) := by decide +kernel
theorem dX12_laysSeen_58 : decode cX12_laysSeen 58 = .ok (.iload_n 1, 1) := by decide +kernel
theorem dX12_laysSeen_59 : decode cX12_laysSeen 59 = .ok (.imul, 1) := by decide +kernel
theorem dX12_laysSeen_60 : decode cX12_laysSeen 60 = .ok (.iload_n 3, 1) := by decide +kernel
theorem dX12_laysSeen_61 : decode cX12_laysSeen 61 = .ok (.iadd, 1) := by decide +kernel
theorem dX12_laysSeen_62 : decode cX12_laysSeen 62 = .ok (.baload, 1) := by decide +kernel
theorem dX12_laysSeen_63 : decode cX12_laysSeen 63 = .ok (.bastore, 1) := by decide +kernel
theorem dX12_laysSeen_64 : decode cX12_laysSeen 64 = .ok (.iinc 3 1, 3) := by decide +kernel
theorem dX12_laysSeen_67 : decode cX12_laysSeen 67 = .ok (.goto (-53), 3) := by decide +kernel
theorem dX12_laysSeen_70 : decode cX12_laysSeen 70 = .ok (.return_, 1) := by decide +kernel
theorem dX12_fresh0_0 : decode cX12_fresh0 0 = .ok (.iconst 0, 1) := by decide +kernel
theorem dX12_fresh0_1 : decode cX12_fresh0 1 = .ok (.istore_n 1, 1) := by decide +kernel
theorem dX12_fresh0_2 : decode cX12_fresh0 2 = .ok (.iload_n 1, 1) := by decide +kernel
theorem dX12_fresh0_3 : decode cX12_fresh0 3 = .ok (.bipush 31, 2) := by decide +kernel
theorem dX12_fresh0_5 : decode cX12_fresh0 5 = .ok (.if_icmp .ge 16, 3) := by decide +kernel
theorem dX12_fresh0_8 : decode cX12_fresh0 8 = .ok (.aload_n 0, 1) := by decide +kernel
theorem dX12_fresh0_9 : decode cX12_fresh0 9 = .ok (.getfield 108, 3) := by decide +kernel
theorem dX12_fresh0_12 : decode cX12_fresh0 12 = .ok (.iload_n 1, 1) := by decide +kernel
theorem dX12_fresh0_13 : decode cX12_fresh0 13 = .ok (.iconst 0, 1) := by decide +kernel
theorem dX12_fresh0_14 : decode cX12_fresh0 14 = .ok (.iastore, 1) := by decide +kernel
theorem dX12_fresh0_15 : decode cX12_fresh0 15 = .ok (.iinc 1 1, 3) := by decide +kernel
theorem dX12_fresh0_18 : decode cX12_fresh0 18 = .ok (.goto (-16), 3) := by decide +kernel
theorem dX12_fresh0_21 : decode cX12_fresh0 21 = .ok (.iconst 0, 1) := by decide +kernel
theorem dX12_fresh0_22 : decode cX12_fresh0 22 = .ok (.istore_n 1, 1) := by decide +kernel
theorem dX12_fresh0_23 : decode cX12_fresh0 23 = .ok (.iload_n 1, 1) := by decide +kernel
theorem dX12_fresh0_24 : decode cX12_fresh0 24 = .ok (.aload_n 0, 1) := by decide +kernel
theorem dX12_fresh0_25 : decode cX12_fresh0 25 = .ok (.getfield 13, 3) := by decide +kernel
theorem dX12_fresh0_28 : decode cX12_fresh0 28 = .ok (.iconst 1, 1) := by decide +kernel
theorem dX12_fresh0_29 : decode cX12_fresh0 29 = .ok (.iaload, 1) := by decide +kernel
theorem dX12_fresh0_30 : decode cX12_fresh0 30 = .ok (.if_icmp .ge 70, 3) := by decide +kernel
theorem dX12_fresh0_33 : decode cX12_fresh0 33 = .ok (.aload_n 0, 1) := by decide +kernel
theorem dX12_fresh0_34 : decode cX12_fresh0 34 = .ok (.getfield 108, 3) := by decide +kernel
theorem dX12_fresh0_37 : decode cX12_fresh0 37 = .ok (.iconst 1, 1) := by decide +kernel
theorem dX12_fresh0_38 : decode cX12_fresh0 38 = .ok (.iload_n 1, 1) := by decide +kernel
theorem dX12_fresh0_39 : decode cX12_fresh0 39 = .ok (.iadd, 1) := by decide +kernel
theorem dX12_fresh0_40 : decode cX12_fresh0 40 = .ok (.aload_n 0, 1) := by decide +kernel
theorem dX12_fresh0_41 : decode cX12_fresh0 41 = .ok (.getfield 32, 3) := by decide +kernel
theorem dX12_fresh0_44 : decode cX12_fresh0 44 = .ok (.iload_n 1, 1) := by decide +kernel
theorem dX12_fresh0_45 : decode cX12_fresh0 45 = .ok (.iaload, 1) := by decide +kernel
theorem dX12_fresh0_46 : decode cX12_fresh0 46 = .ok (.iastore, 1) := by decide +kernel
theorem dX12_fresh0_47 : decode cX12_fresh0 47 = .ok (.aload_n 0, 1) := by decide +kernel
theorem dX12_fresh0_48 : decode cX12_fresh0 48 = .ok (.getfield 108, 3) := by decide +kernel
theorem dX12_fresh0_51 : decode cX12_fresh0 51 = .ok (.bipush 7, 2) := by decide +kernel
theorem dX12_fresh0_53 : decode cX12_fresh0 53 = .ok (.iload_n 1, 1) := by decide +kernel
theorem dX12_fresh0_54 : decode cX12_fresh0 54 = .ok (.iadd, 1) := by decide +kernel
theorem dX12_fresh0_55 : decode cX12_fresh0 55 = .ok (.aload_n 0, 1) := by decide +kernel
theorem dX12_fresh0_56 : decode cX12_fresh0 56 = .ok (.getfield 35, 3) := by decide +kernel
theorem dX12_fresh0_59 : decode cX12_fresh0 59 = .ok (.iload_n 1, 1) := by decide +kernel
theorem dX12_fresh0_60 : decode cX12_fresh0 60 = .ok (.iaload, 1) := by decide +kernel
theorem dX12_fresh0_61 : decode cX12_fresh0 61 = .ok (.iastore, 1) := by decide +kernel
theorem dX12_fresh0_62 : decode cX12_fresh0 62 = .ok (.aload_n 0, 1) := by decide +kernel
theorem dX12_fresh0_63 : decode cX12_fresh0 63 = .ok (.getfield 108, 3) := by decide +kernel
theorem dX12_fresh0_66 : decode cX12_fresh0 66 = .ok (.bipush 19, 2) := by decide +kernel
theorem dX12_fresh0_68 : decode cX12_fresh0 68 = .ok (.iload_n 1, 1) := by decide +kernel
theorem dX12_fresh0_69 : decode cX12_fresh0 69 = .ok (.iadd, 1) := by decide +kernel
theorem dX12_fresh0_70 : decode cX12_fresh0 70 = .ok (.aload_n 0, 1) := by decide +kernel
theorem dX12_fresh0_71 : decode cX12_fresh0 71 = .ok (.getfield 38, 3) := by decide +kernel
theorem dX12_fresh0_74 : decode cX12_fresh0 74 = .ok (.iload_n 1, 1) := by decide +kernel
theorem dX12_fresh0_75 : decode cX12_fresh0 75 = .ok (.iaload, 1) := by decide +kernel
theorem dX12_fresh0_76 : decode cX12_fresh0 76 = .ok (.iastore, 1) := by decide +kernel
theorem dX12_fresh0_77 : decode cX12_fresh0 77 = .ok (.aload_n 0, 1) := by decide +kernel
theorem dX12_fresh0_78 : decode cX12_fresh0 78 = .ok (.getfield 108, 3) := by decide +kernel
theorem dX12_fresh0_81 : decode cX12_fresh0 81 = .ok (.bipush 25, 2) := by decide +kernel
theorem dX12_fresh0_83 : decode cX12_fresh0 83 = .ok (.iload_n 1, 1) := by decide +kernel
theorem dX12_fresh0_84 : decode cX12_fresh0 84 = .ok (.iadd, 1) := by decide +kernel
theorem dX12_fresh0_85 : decode cX12_fresh0 85 = .ok (.iconst 1, 1) := by decide +kernel
theorem dX12_fresh0_86 : decode cX12_fresh0 86 = .ok (.aload_n 0, 1) := by decide +kernel
theorem dX12_fresh0_87 : decode cX12_fresh0 87 = .ok (.getfield 32, 3) := by decide +kernel
theorem dX12_fresh0_90 : decode cX12_fresh0 90 = .ok (.iload_n 1, 1) := by decide +kernel
theorem dX12_fresh0_91 : decode cX12_fresh0 91 = .ok (.iaload, 1) := by decide +kernel
theorem dX12_fresh0_92 : decode cX12_fresh0 92 = .ok (.ishl, 1) := by decide +kernel
theorem dX12_fresh0_93 : decode cX12_fresh0 93 = .ok (.iastore, 1) := by decide +kernel
theorem dX12_fresh0_94 : decode cX12_fresh0 94 = .ok (.iinc 1 1, 3) := by decide +kernel
theorem dX12_fresh0_97 : decode cX12_fresh0 97 = .ok (.goto (-74), 3) := by decide +kernel
theorem dX12_fresh0_100 : decode cX12_fresh0 100 = .ok (.return_, 1) := by decide +kernel
theorem dX12_land_0 : decode cX12_land 0 = .ok (.aload_n 0, 1) := by decide +kernel
theorem dX12_land_1 : decode cX12_land 1 = .ok (.iconst 0, 1) := by decide +kernel
theorem dX12_land_2 : decode cX12_land 2 = .ok (.putfield 129, 3) := by decide +kernel
theorem dX12_land_5 : decode cX12_land 5 = .ok (.aload_n 0, 1) := by decide +kernel
theorem dX12_land_6 : decode cX12_land 6 = .ok (.invokevirtual 327, 3) := by decide +kernel
theorem dX12_land_9 : decode cX12_land 9 = .ok (.ifCond .ne 8, 3) := by decide +kernel
theorem dX12_land_12 : decode cX12_land 12 = .ok (.aload_n 0, 1) := by decide +kernel
theorem dX12_land_13 : decode cX12_land 13 = .ok (.getfield 165, 3) := by decide +kernel
theorem dX12_land_16 : decode cX12_land 16 = .ok (.ireturn, 1) := by decide +kernel
theorem dX12_land_17 : decode cX12_land 17 = .ok (.aload_n 0, 1) := by decide +kernel
theorem dX12_land_18 : decode cX12_land 18 = .ok (.invokevirtual 330, 3) := by decide +kernel
theorem dX12_land_21 : decode cX12_land 21 = .ok (.aload_n 0, 1) := by decide +kernel
theorem dX12_land_22 : decode cX12_land 22 = .ok (.invokevirtual 333, 3) := by decide +kernel
theorem dX12_land_25 : decode cX12_land 25 = .ok (.aload_n 0, 1) := by decide +kernel
theorem dX12_land_26 : decode cX12_land 26 = .ok (.getfield 87, 3) := by decide +kernel
theorem dX12_land_29 : decode cX12_land 29 = .ok (.iconst 0, 1) := by decide +kernel
theorem dX12_land_30 : decode cX12_land 30 = .ok (.iconst 0, 1) := by decide +kernel
theorem dX12_land_31 : decode cX12_land 31 = .ok (.iastore, 1) := by decide +kernel
theorem dX12_land_32 : decode cX12_land 32 = .ok (.aload_n 0, 1) := by decide +kernel
theorem dX12_land_33 : decode cX12_land 33 = .ok (.getfield 99, 3) := by decide +kernel
theorem dX12_land_36 : decode cX12_land 36 = .ok (.iconst 0, 1) := by decide +kernel
theorem dX12_land_37 : decode cX12_land 37 = .ok (.iconst 0, 1) := by decide +kernel
theorem dX12_land_38 : decode cX12_land 38 = .ok (.iastore, 1) := by decide +kernel
theorem dX12_land_39 : decode cX12_land 39 = .ok (.aload_n 0, 1) := by decide +kernel
theorem dX12_land_40 : decode cX12_land 40 = .ok (.iconst 0, 1) := by decide +kernel
theorem dX12_land_41 : decode cX12_land 41 = .ok (.putfield 336, 3) := by decide +kernel
theorem dX12_land_44 : decode cX12_land 44 = .ok (.iconst 0, 1) := by decide +kernel
theorem dX12_land_45 : decode cX12_land 45 = .ok (.istore_n 1, 1) := by decide +kernel
theorem dX12_land_46 : decode cX12_land 46 = .ok (.iload_n 1, 1) := by decide +kernel
theorem dX12_land_47 : decode cX12_land 47 = .ok (.iconst 4, 1) := by decide +kernel
theorem dX12_land_48 : decode cX12_land 48 = .ok (.if_icmp .ge 16, 3) := by decide +kernel
theorem dX12_land_51 : decode cX12_land 51 = .ok (.aload_n 0, 1) := by decide +kernel
theorem dX12_land_52 : decode cX12_land 52 = .ok (.getfield 123, 3) := by decide +kernel
theorem dX12_land_55 : decode cX12_land 55 = .ok (.iload_n 1, 1) := by decide +kernel
theorem dX12_land_56 : decode cX12_land 56 = .ok (.iconst 0, 1) := by decide +kernel
theorem dX12_land_57 : decode cX12_land 57 = .ok (.bastore, 1) := by decide +kernel
theorem dX12_land_58 : decode cX12_land 58 = .ok (.iinc 1 1, 3) := by decide +kernel
theorem dX12_land_61 : decode cX12_land 61 = .ok (.goto (-15), 3) := by decide +kernel
theorem dX12_land_64 : decode cX12_land 64 = .ok (.iconst 0, 1) := by decide +kernel
theorem dX12_land_65 : decode cX12_land 65 = .ok (.ireturn, 1) := by decide +kernel
theorem dX12_journey_0 : decode cX12_journey 0 = .ok (.aload_n 0, 1) := by decide +kernel
theorem dX12_journey_1 : decode cX12_journey 1 = .ok (.iconst 0, 1) := by decide +kernel
theorem dX12_journey_2 : decode cX12_journey 2 = .ok (.putfield 129, 3) := by decide +kernel
theorem dX12_journey_5 : decode cX12_journey 5 = .ok (.aload_n 0, 1) := by decide +kernel
theorem dX12_journey_6 : decode cX12_journey 6 = .ok (.getfield 87, 3) := by decide +kernel
theorem dX12_journey_9 : decode cX12_journey 9 = .ok (.iconst 5, 1) := by decide +kernel
theorem dX12_journey_10 : decode cX12_journey 10 = .ok (.iconst 0, 1) := by decide +kernel
theorem dX12_journey_11 : decode cX12_journey 11 = .ok (.iastore, 1) := by decide +kernel
theorem dX12_journey_12 : decode cX12_journey 12 = .ok (.aload_n 0, 1) := by decide +kernel
theorem dX12_journey_13 : decode cX12_journey 13 = .ok (.iconst 0, 1) := by decide +kernel
theorem dX12_journey_14 : decode cX12_journey 14 = .ok (.putfield 256, 3) := by decide +kernel
theorem dX12_journey_17 : decode cX12_journey 17 = .ok (.aload_n 0, 1) := by decide +kernel
theorem dX12_journey_18 : decode cX12_journey 18 = .ok (.invokevirtual 298, 3) := by decide +kernel
theorem dX12_journey_21 : decode cX12_journey 21 = .ok (.aload_n 0, 1) := by decide +kernel
theorem dX12_journey_22 : decode cX12_journey 22 = .ok (.getfield 154, 3) := by decide +kernel
theorem dX12_journey_25 : decode cX12_journey 25 = .ok (.ifCond .eq 15, 3) := by decide +kernel
theorem dX12_journey_28 : decode cX12_journey 28 = .ok (.aload_n 0, 1) := by decide +kernel
theorem dX12_journey_29 : decode cX12_journey 29 = .ok (.invokevirtual 339, 3) := by decide +kernel
theorem dX12_journey_32 : decode cX12_journey 32 = .ok (.ifCond .ne (-11), 3) := by decide +kernel
theorem dX12_journey_35 : decode cX12_journey 35 = .ok (.aload_n 0, 1) := by decide +kernel
theorem dX12_journey_36 : decode cX12_journey 36 = .ok (.getfield 165, 3) := by decide +kernel
theorem dX12_journey_39 : decode cX12_journey 39 = .ok (.ireturn, 1) := by decide +kernel
theorem dX12_journey_40 : decode cX12_journey 40 = .ok (.aload_n 0, 1) := by decide +kernel
theorem dX12_journey_41 : decode cX12_journey 41 = .ok (.iconst 5, 1) := by decide +kernel
theorem dX12_journey_42 : decode cX12_journey 42 = .ok (.iconst 0, 1) := by decide +kernel
theorem dX12_journey_43 : decode cX12_journey 43 = .ok (.invokevirtual 342, 3) := by decide +kernel
theorem dX12_journey_46 : decode cX12_journey 46 = .ok (.iconst 0, 1) := by decide +kernel
theorem dX12_journey_47 : decode cX12_journey 47 = .ok (.ireturn, 1) := by decide +kernel
theorem dX12_isTown_0 : decode cX12_isTown 0 = .ok (.iload_n 1, 1) := by decide +kernel
theorem dX12_isTown_1 : decode cX12_isTown 1 = .ok (.ifCond .lt 17, 3) := by decide +kernel
theorem dX12_isTown_4 : decode cX12_isTown 4 = .ok (.iload_n 1, 1) := by decide +kernel
theorem dX12_isTown_5 : decode cX12_isTown 5 = .ok (.aload_n 0, 1) := by decide +kernel
theorem dX12_isTown_6 : decode cX12_isTown 6 = .ok (.getfield 13, 3) := by decide +kernel
theorem dX12_isTown_9 : decode cX12_isTown 9 = .ok (.iconst 0, 1) := by decide +kernel
theorem dX12_isTown_10 : decode cX12_isTown 10 = .ok (.iaload, 1) := by decide +kernel
theorem dX12_isTown_11 : decode cX12_isTown 11 = .ok (.if_icmp .ge 7, 3) := by decide +kernel
theorem dX12_isTown_14 : decode cX12_isTown 14 = .ok (.iconst 1, 1) := by decide +kernel
theorem dX12_isTown_15 : decode cX12_isTown 15 = .ok (.goto 4, 3) := by decide +kernel
theorem dX12_isTown_18 : decode cX12_isTown 18 = .ok (.iconst 0, 1) := by decide +kernel
theorem dX12_isTown_19 : decode cX12_isTown 19 = .ok (.ireturn, 1) := by decide +kernel
theorem dX12_isPerson_0 : decode cX12_isPerson 0 = .ok (.iload_n 1, 1) := by decide +kernel
theorem dX12_isPerson_1 : decode cX12_isPerson 1 = .ok (.ifCond .lt 17, 3) := by decide +kernel
theorem dX12_isPerson_4 : decode cX12_isPerson 4 = .ok (.iload_n 1, 1) := by decide +kernel
theorem dX12_isPerson_5 : decode cX12_isPerson 5 = .ok (.aload_n 0, 1) := by decide +kernel
theorem dX12_isPerson_6 : decode cX12_isPerson 6 = .ok (.getfield 13, 3) := by decide +kernel
theorem dX12_isPerson_9 : decode cX12_isPerson 9 = .ok (.iconst 1, 1) := by decide +kernel
theorem dX12_isPerson_10 : decode cX12_isPerson 10 = .ok (.iaload, 1) := by decide +kernel
theorem dX12_isPerson_11 : decode cX12_isPerson 11 = .ok (.if_icmp .ge 7, 3) := by decide +kernel
theorem dX12_isPerson_14 : decode cX12_isPerson 14 = .ok (.iconst 1, 1) := by decide +kernel
theorem dX12_isPerson_15 : decode cX12_isPerson 15 = .ok (.goto 4, 3) := by decide +kernel
theorem dX12_isPerson_18 : decode cX12_isPerson 18 = .ok (.iconst 0, 1) := by decide +kernel
theorem dX12_isPerson_19 : decode cX12_isPerson 19 = .ok (.ireturn, 1) := by decide +kernel
theorem dX12_readsBeard_0 : decode cX12_readsBeard 0 = .ok (.aload_n 0, 1) := by decide +kernel
theorem dX12_readsBeard_1 : decode cX12_readsBeard 1 = .ok (.getfield 44, 3) := by decide +kernel
theorem dX12_readsBeard_4 : decode cX12_readsBeard 4 = .ok (.iconst 0, 1) := by decide +kernel
theorem dX12_readsBeard_5 : decode cX12_readsBeard 5 = .ok (.iaload, 1) := by decide +kernel
theorem dX12_readsBeard_6 : decode cX12_readsBeard 6 = .ok (.aload_n 0, 1) := by decide +kernel
theorem dX12_readsBeard_7 : decode cX12_readsBeard 7 = .ok (.getfield 41, 3) := by decide +kernel
theorem dX12_readsBeard_10 : decode cX12_readsBeard 10 = .ok (.iconst 0, 1) := by decide +kernel
theorem dX12_readsBeard_11 : decode cX12_readsBeard 11 = .ok (.iaload, 1) := by decide +kernel
theorem dX12_readsBeard_12 : decode cX12_readsBeard 12 = .ok (.if_icmp .ne 14, 3) := by decide +kernel
theorem dX12_readsBeard_15 : decode cX12_readsBeard 15 = .ok (.iload_n 1, 1) := by decide +kernel
theorem dX12_readsBeard_16 : decode cX12_readsBeard 16 = .ok (.iload_n 3, 1) := by decide +kernel
theorem dX12_readsBeard_17 : decode cX12_readsBeard 17 = .ok (.if_icmp .lt 7, 3) := by decide +kernel
theorem dX12_readsBeard_20 : decode cX12_readsBeard 20 = .ok (.iconst 1, 1) := by decide +kernel
theorem dX12_readsBeard_21 : decode cX12_readsBeard 21 = .ok (.goto 4, 3) := by decide +kernel
theorem dX12_readsBeard_24 : decode cX12_readsBeard 24 = .ok (.iconst 0, 1) := by decide +kernel
theorem dX12_readsBeard_25 : decode cX12_readsBeard 25 = .ok (.ireturn, 1) := by decide +kernel
theorem dX12_readsBeard_26 : decode cX12_readsBeard 26 = .ok (.aload_n 0, 1) := by decide +kernel
theorem dX12_readsBeard_27 : decode cX12_readsBeard 27 = .ok (.getfield 84, 3) := by decide +kernel
theorem dX12_readsBeard_30 : decode cX12_readsBeard 30 = .ok (.iconst 1, 1) := by decide +kernel
theorem dX12_readsBeard_31 : decode cX12_readsBeard 31 = .ok (.iload_n 1, 1) := by decide +kernel
theorem dX12_readsBeard_32 : decode cX12_readsBeard 32 = .ok (.iastore, 1) := by decide +kernel
theorem dX12_readsBeard_33 : decode cX12_readsBeard 33 = .ok (.aload_n 0, 1) := by decide +kernel
theorem dX12_readsBeard_34 : decode cX12_readsBeard 34 = .ok (.getfield 84, 3) := by decide +kernel
theorem dX12_readsBeard_37 : decode cX12_readsBeard 37 = .ok (.iconst 2, 1) := by decide +kernel
theorem dX12_readsBeard_38 : decode cX12_readsBeard 38 = .ok (.iload_n 2, 1) := by decide +kernel
theorem dX12_readsBeard_39 : decode cX12_readsBeard 39 = .ok (.iastore, 1) := by decide +kernel
theorem dX12_readsBeard_40 : decode cX12_readsBeard 40 = .ok (.aload_n 0, 1) := by decide +kernel
theorem dX12_readsBeard_41 : decode cX12_readsBeard 41 = .ok (.getfield 84, 3) := by decide +kernel
theorem dX12_readsBeard_44 : decode cX12_readsBeard 44 = .ok (.iconst 3, 1) := by decide +kernel
theorem dX12_readsBeard_45 : decode cX12_readsBeard 45 = .ok (.iload_n 3, 1) := by decide +kernel
theorem dX12_readsBeard_46 : decode cX12_readsBeard 46 = .ok (.iastore, 1) := by decide +kernel
theorem dX12_readsBeard_47 : decode cX12_readsBeard 47 = .ok (.aload_n 0, 1) := by decide +kernel
theorem dX12_readsBeard_48 : decode cX12_readsBeard 48 = .ok (.getfield 84, 3) := by decide +kernel
theorem dX12_readsBeard_51 : decode cX12_readsBeard 51 = .ok (.iconst 4, 1) := by decide +kernel
theorem dX12_readsBeard_52 : decode cX12_readsBeard 52 = .ok (.aload_n 0, 1) := by decide +kernel
theorem dX12_readsBeard_53 : decode cX12_readsBeard 53 = .ok (.getfield 108, 3) := by decide +kernel
theorem dX12_readsBeard_56 : decode cX12_readsBeard 56 = .ok (.iconst 0, 1) := by decide +kernel
theorem dX12_readsBeard_57 : decode cX12_readsBeard 57 = .ok (.iaload, 1) := by decide +kernel
theorem dX12_readsBeard_58 : decode cX12_readsBeard 58 = .ok (.iastore, 1) := by decide +kernel
theorem dX12_readsBeard_59 : decode cX12_readsBeard 59 = .ok (.aload_n 0, 1) := by decide +kernel
theorem dX12_readsBeard_60 : decode cX12_readsBeard 60 = .ok (.iconst 0, 1) := by decide +kernel
theorem dX12_readsBeard_61 : decode cX12_readsBeard 61 = .ok (.invokevirtual 346, 3) := by decide +kernel
theorem dX12_readsBeard_64 : decode cX12_readsBeard 64 = .ok (.ifCond .eq 7, 3) := by decide +kernel
theorem dX12_readsBeard_67 : decode cX12_readsBeard 67 = .ok (.iconst 1, 1) := by decide +kernel
theorem dX12_readsBeard_68 : decode cX12_readsBeard 68 = .ok (.goto 4, 3) := by decide +kernel
theorem dX12_readsBeard_71 : decode cX12_readsBeard 71 = .ok (.iconst 0, 1) := by decide +kernel
theorem dX12_readsBeard_72 : decode cX12_readsBeard 72 = .ok (.ireturn, 1) := by decide +kernel
