theorem dX12_readsRoad_33 : decode cX12_readsRoad 33 = .ok (.aload_n 0, 1) := by decide +kernel
theorem dX12_readsRoad_34 : decode cX12_readsRoad 34 = .ok (.getfield 256, 3) := by decide +kernel
theorem dX12_readsRoad_37 : decode cX12_readsRoad 37 = .ok (.iload_n 1, 1) := by decide +kernel
theorem dX12_readsRoad_38 : decode cX12_readsRoad 38 = .ok (.if_icmp .eq 23, 3) := by decide +kernel
theorem dX12_readsRoad_41 : decode cX12_readsRoad 41 = .ok (.aload_n 0, 1) := by decide +kernel
theorem dX12_readsRoad_42 : decode cX12_readsRoad 42 = .ok (.getfield 26, 3) := by decide +kernel
theorem dX12_readsRoad_45 : decode cX12_readsRoad 45 = .ok (.bipush 6, 2) := by decide +kernel
theorem dX12_readsRoad_47 : decode cX12_readsRoad 47 = .ok (.iload_n 1, 1) := by decide +kernel
theorem dX12_readsRoad_48 : decode cX12_readsRoad 48 = .ok (.iadd, 1) := by decide +kernel
theorem dX12_readsRoad_49 : decode cX12_readsRoad 49 = .ok (.iaload, 1) := by decide +kernel
theorem dX12_readsRoad_50 : decode cX12_readsRoad 50 = .ok (.aload_n 0, 1) := by decide +kernel
theorem dX12_readsRoad_51 : decode cX12_readsRoad 51 = .ok (.getfield 256, 3) := by decide +kernel
theorem dX12_readsRoad_54 : decode cX12_readsRoad 54 = .ok (.ishr, 1) := by decide +kernel
theorem dX12_readsRoad_55 : decode cX12_readsRoad 55 = .ok (.iconst 1, 1) := by decide +kernel
theorem dX12_readsRoad_56 : decode cX12_readsRoad 56 = .ok (.iand, 1) := by decide +kernel
theorem dX12_readsRoad_57 : decode cX12_readsRoad 57 = .ok (.iconst 1, 1) := by decide +kernel
theorem dX12_readsRoad_58 : decode cX12_readsRoad 58 = .ok (.if_icmp .ne 9, 3) := by decide +kernel
theorem dX12_readsRoad_61 : decode cX12_readsRoad 61 = .ok (.aload_n 0, 1) := by decide +kernel
theorem dX12_readsRoad_62 : decode cX12_readsRoad 62 = .ok (.iconst 3, 1) := by decide +kernel
theorem dX12_readsRoad_63 : decode cX12_readsRoad 63 = .ok (.invokevirtual 193, 3) := by decide +kernel
theorem dX12_readsRoad_66 : decode cX12_readsRoad 66 = .ok (.ireturn, 1) := by decide +kernel
theorem dX12_readsRoad_67 : decode cX12_readsRoad 67 = .ok (.aload_n 0, 1) := by decide +kernel
theorem dX12_readsRoad_68 : decode cX12_readsRoad 68 = .ok (.getfield 26, 3) := by decide +kernel
theorem dX12_readsRoad_71 : decode cX12_readsRoad 71 = .ok (.bipush 6, 2) := by decide +kernel
theorem dX12_readsRoad_73 : decode cX12_readsRoad 73 = .ok (.iload_n 1, 1) := by decide +kernel
theorem dX12_readsRoad_74 : decode cX12_readsRoad 74 = .ok (.iadd, 1) := by decide +kernel
theorem dX12_readsRoad_75 : decode cX12_readsRoad 75 = .ok (.dup2, 1) := by decide +kernel
theorem dX12_readsRoad_76 : decode cX12_readsRoad 76 = .ok (.iaload, 1) := by decide +kernel
theorem dX12_readsRoad_77 : decode cX12_readsRoad 77 = .ok (.iconst 1, 1) := by decide +kernel
theorem dX12_readsRoad_78 : decode cX12_readsRoad 78 = .ok (.aload_n 0, 1) := by decide +kernel
theorem dX12_readsRoad_79 : decode cX12_readsRoad 79 = .ok (.getfield 256, 3) := by decide +kernel
theorem dX12_readsRoad_82 : decode cX12_readsRoad 82 = .ok (.ishl, 1) := by decide +kernel
theorem dX12_readsRoad_83 : decode cX12_readsRoad 83 = .ok (.ior, 1) := by decide +kernel
theorem dX12_readsRoad_84 : decode cX12_readsRoad 84 = .ok (.iastore, 1) := by decide +kernel
theorem dX12_readsRoad_85 : decode cX12_readsRoad 85 = .ok (.aload_n 0, 1) := by decide +kernel
theorem dX12_readsRoad_86 : decode cX12_readsRoad 86 = .ok (.getfield 26, 3) := by decide +kernel
theorem dX12_readsRoad_89 : decode cX12_readsRoad 89 = .ok (.bipush 6, 2) := by decide +kernel
theorem dX12_readsRoad_91 : decode cX12_readsRoad 91 = .ok (.aload_n 0, 1) := by decide +kernel
theorem dX12_readsRoad_92 : decode cX12_readsRoad 92 = .ok (.getfield 256, 3) := by decide +kernel
theorem dX12_readsRoad_95 : decode cX12_readsRoad 95 = .ok (.iadd, 1) := by decide +kernel
theorem dX12_readsRoad_96 : decode cX12_readsRoad 96 = .ok (.dup2, 1) := by decide +kernel
theorem dX12_readsRoad_97 : decode cX12_readsRoad 97 = .ok (.iaload, 1) := by decide +kernel
theorem dX12_readsRoad_98 : decode cX12_readsRoad 98 = .ok (.iconst 1, 1) := by decide +kernel
theorem dX12_readsRoad_99 : decode cX12_readsRoad 99 = .ok (.iload_n 1, 1) := by decide +kernel
theorem dX12_readsRoad_100 : decode cX12_readsRoad 100 = .ok (.ishl, 1) := by decide +kernel
theorem dX12_readsRoad_101 : decode cX12_readsRoad 101 = .ok (.ior, 1) := by decide +kernel
theorem dX12_readsRoad_102 : decode cX12_readsRoad 102 = .ok (.iastore, 1) := by decide +kernel
theorem dX12_readsRoad_103 : decode cX12_readsRoad 103 = .ok (.aload_n 0, 1) := by decide +kernel
theorem dX12_readsRoad_104 : decode cX12_readsRoad 104 = .ok (.invokevirtual 200, 3) := by decide +kernel
theorem dX12_readsRoad_107 : decode cX12_readsRoad 107 = .ok (.aload_n 0, 1) := by decide +kernel
theorem dX12_readsRoad_108 : decode cX12_readsRoad 108 = .ok (.invokevirtual 286, 3) := by decide +kernel
theorem dX12_readsRoad_111 : decode cX12_readsRoad 111 = .ok (.ireturn, 1) := by decide +kernel
theorem dX12_readsPerson_0 : decode cX12_readsPerson 0 = .ok (.bipush 6, 2) := by decide +kernel
theorem dX12_readsPerson_2 : decode cX12_readsPerson 2 = .ok (.aload_n 0, 1) := by decide +kernel
theorem dX12_readsPerson_3 : decode cX12_readsPerson 3 = .ok (.getfield 13, 3) := by decide +kernel
theorem dX12_readsPerson_6 : decode cX12_readsPerson 6 = .ok (.iconst 5, 1) := by decide +kernel
theorem dX12_readsPerson_7 : decode cX12_readsPerson 7 = .ok (.iaload, 1) := by decide +kernel
theorem dX12_readsPerson_8 : decode cX12_readsPerson 8 = .ok (.iadd, 1) := by decide +kernel
theorem dX12_readsPerson_9 : decode cX12_readsPerson 9 = .ok (.istore_n 1, 1) := by decide +kernel
theorem dX12_readsPerson_10 : decode cX12_readsPerson 10 = .ok (.iload_n 1, 1) := by decide +kernel
theorem dX12_readsPerson_11 : decode cX12_readsPerson 11 = .ok (.bipush 12, 2) := by decide +kernel
theorem dX12_readsPerson_13 : decode cX12_readsPerson 13 = .ok (.if_icmp .ne 9, 3) := by decide +kernel
theorem dX12_readsPerson_16 : decode cX12_readsPerson 16 = .ok (.aload_n 0, 1) := by decide +kernel
theorem dX12_readsPerson_17 : decode cX12_readsPerson 17 = .ok (.iconst 5, 1) := by decide +kernel
theorem dX12_readsPerson_18 : decode cX12_readsPerson 18 = .ok (.invokevirtual 193, 3) := by decide +kernel
theorem dX12_readsPerson_21 : decode cX12_readsPerson 21 = .ok (.ireturn, 1) := by decide +kernel
theorem dX12_readsPerson_22 : decode cX12_readsPerson 22 = .ok (.aload_n 0, 1) := by decide +kernel
theorem dX12_readsPerson_23 : decode cX12_readsPerson 23 = .ok (.invokevirtual 200, 3) := by decide +kernel
theorem dX12_readsPerson_26 : decode cX12_readsPerson 26 = .ok (.aload_n 0, 1) := by decide +kernel
theorem dX12_readsPerson_27 : decode cX12_readsPerson 27 = .ok (.invokevirtual 279, 3) := by decide +kernel
theorem dX12_readsPerson_30 : decode cX12_readsPerson 30 = .ok (.ifCond .ne 5, 3) := by decide +kernel
theorem dX12_readsPerson_33 : decode cX12_readsPerson 33 = .ok (.iconst 0, 1) := by decide +kernel
theorem dX12_readsPerson_34 : decode cX12_readsPerson 34 = .ok (.ireturn, 1) := by decide +kernel
theorem dX12_readsPerson_35 : decode cX12_readsPerson 35 = .ok (.aload_n 0, 1) := by decide +kernel
theorem dX12_readsPerson_36 : decode cX12_readsPerson 36 = .ok (.getfield 276, 3) := by decide +kernel
theorem dX12_readsPerson_39 : decode cX12_readsPerson 39 = .ok (.lstore_n 2, 1) := by decide +kernel
theorem dX12_readsPerson_40 : decode cX12_readsPerson 40 = .ok (.aload_n 0, 1) := by decide +kernel
theorem dX12_readsPerson_41 : decode cX12_readsPerson 41 = .ok (.getfield 29, 3) := by decide +kernel
theorem dX12_readsPerson_44 : decode cX12_readsPerson 44 = .ok (.iload_n 1, 1) := by decide +kernel
theorem dX12_readsPerson_45 : decode cX12_readsPerson 45 = .ok (.aload_n 0, 1) := by decide +kernel
theorem dX12_readsPerson_46 : decode cX12_readsPerson 46 = .ok (.ldc2_w 244, 3) := by decide +kernel
theorem dX12_readsPerson_49 : decode cX12_readsPerson 49 = .ok (.invokevirtual 185, 3) := by decide +kernel
theorem dX12_readsPerson_52 : decode cX12_readsPerson 52 = .ok (.ifCond .eq 7, 3) := by decide +kernel
theorem dX12_readsPerson_55 : decode cX12_readsPerson 55 = .ok (.iconst 0, 1) := by decide +kernel
theorem dX12_readsPerson_56 : decode cX12_readsPerson 56 = .ok (.goto 46, 3) := by decide +kernel
theorem dX12_readsPerson_59 : decode cX12_readsPerson 59 = .ok (.aload_n 0, 1) := by decide +kernel
theorem dX12_readsPerson_60 : decode cX12_readsPerson 60 = .ok (.ldc2_w 246, 3) := by decide +kernel
theorem dX12_readsPerson_63 : decode cX12_readsPerson 63 = .ok (.invokevirtual 185, 3) := by decide +kernel
theorem dX12_readsPerson_66 : decode cX12_readsPerson 66 = .ok (.ifCond .eq 7, 3) := by decide +kernel
theorem dX12_readsPerson_69 : decode cX12_readsPerson 69 = .ok (.iconst 1, 1) := by decide +kernel
theorem dX12_readsPerson_70 : decode cX12_readsPerson 70 = .ok (.goto 32, 3) := by decide +kernel
theorem dX12_readsPerson_73 : decode cX12_readsPerson 73 = .ok (.aload_n 0, 1) := by decide +kernel
theorem dX12_readsPerson_74 : decode cX12_readsPerson 74 = .ok (.ldc2_w 248, 3) := by decide +kernel
theorem dX12_readsPerson_77 : decode cX12_readsPerson 77 = .ok (.invokevirtual 185, 3) := by decide +kernel
theorem dX12_readsPerson_80 : decode cX12_readsPerson 80 = .ok (.ifCond .eq 7, 3) := by decide +kernel
theorem dX12_readsPerson_83 : decode cX12_readsPerson 83 = .ok (.iconst 2, 1) := by decide +kernel
theorem dX12_readsPerson_84 : decode cX12_readsPerson 84 = .ok (.goto 18, 3) := by decide +kernel
theorem dX12_readsPerson_87 : decode cX12_readsPerson 87 = .ok (.aload_n 0, 1) := by decide +kernel
theorem dX12_readsPerson_88 : decode cX12_readsPerson 88 = .ok (.ldc2_w 250, 3) := by decide +kernel
theorem dX12_readsPerson_91 : decode cX12_readsPerson 91 = .ok (.invokevirtual 185, 3) := by decide +kernel
theorem dX12_readsPerson_94 : decode cX12_readsPerson 94 = .ok (.ifCond .eq 7, 3) := by decide +kernel
theorem dX12_readsPerson_97 : decode cX12_readsPerson 97 = .ok (.iconst 3, 1) := by decide +kernel
theorem dX12_readsPerson_98 : decode cX12_readsPerson 98 = .ok (.goto 4, 3) := by decide +kernel
theorem dX12_readsPerson_101 : decode cX12_readsPerson 101 = .ok (.iconst (-1), 1) := by decide +kernel
theorem dX12_readsPerson_102 : decode cX12_readsPerson 102 = .ok (.iastore, 1) := by decide +kernel
theorem dX12_readsPerson_103 : decode cX12_readsPerson 103 = .ok (.aload_n 0, 1) := by decide +kernel
theorem dX12_readsPerson_104 : decode cX12_readsPerson 104 = .ok (.getfield 29, 3) := by decide +kernel
theorem dX12_readsPerson_107 : decode cX12_readsPerson 107 = .ok (.iload_n 1, 1) := by decide +kernel
theorem dX12_readsPerson_108 : decode cX12_readsPerson 108 = .ok (.iaload, 1) := by decide +kernel
theorem dX12_readsPerson_109 : decode cX12_readsPerson 109 = .ok (.ifCond .ge 9, 3) := by decide +kernel
theorem dX12_readsPerson_112 : decode cX12_readsPerson 112 = .ok (.aload_n 0, 1) := by decide +kernel
theorem dX12_readsPerson_113 : decode cX12_readsPerson 113 = .ok (.iconst 1, 1) := by decide +kernel
theorem dX12_readsPerson_114 : decode cX12_readsPerson 114 = .ok (.invokevirtual 193, 3) := by decide +kernel
theorem dX12_readsPerson_117 : decode cX12_readsPerson 117 = .ok (.ireturn, 1) := by decide +kernel
theorem dX12_readsPerson_118 : decode cX12_readsPerson 118 = .ok (.aload_n 0, 1) := by decide +kernel
theorem dX12_readsPerson_119 : decode cX12_readsPerson 119 = .ok (.invokevirtual 200, 3) := by decide +kernel
theorem dX12_readsPerson_122 : decode cX12_readsPerson 122 = .ok (.aload_n 0, 1) := by decide +kernel
theorem dX12_readsPerson_123 : decode cX12_readsPerson 123 = .ok (.ldc2_w 224, 3) := by decide +kernel
theorem dX12_readsPerson_126 : decode cX12_readsPerson 126 = .ok (.invokevirtual 259, 3) := by decide +kernel
theorem dX12_readsPerson_129 : decode cX12_readsPerson 129 = .ok (.ifCond .eq 11, 3) := by decide +kernel
theorem dX12_readsPerson_132 : decode cX12_readsPerson 132 = .ok (.aload_n 0, 1) := by decide +kernel
theorem dX12_readsPerson_133 : decode cX12_readsPerson 133 = .ok (.iconst 1, 1) := by decide +kernel
theorem dX12_readsPerson_134 : decode cX12_readsPerson 134 = .ok (.invokevirtual 289, 3) := by decide +kernel
theorem dX12_readsPerson_137 : decode cX12_readsPerson 137 = .ok (.ifCond .ne 5, 3) := by decide +kernel
theorem dX12_readsPerson_140 : decode cX12_readsPerson 140 = .ok (.iconst 0, 1) := by decide +kernel
theorem dX12_readsPerson_141 : decode cX12_readsPerson 141 = .ok (.ireturn, 1) := by decide +kernel
theorem dX12_readsPerson_142 : decode cX12_readsPerson 142 = .ok (.aload_n 0, 1) := by decide +kernel
theorem dX12_readsPerson_143 : decode cX12_readsPerson 143 = .ok (.getfield 32, 3) := by decide +kernel
theorem dX12_readsPerson_146 : decode cX12_readsPerson 146 = .ok (.iload_n 1, 1) := by decide +kernel
theorem dX12_readsPerson_147 : decode cX12_readsPerson 147 = .ok (.aload_n 0, 1) := by decide +kernel
theorem dX12_readsPerson_148 : decode cX12_readsPerson 148 = .ok (.getfield 256, 3) := by decide +kernel
theorem dX12_readsPerson_151 : decode cX12_readsPerson 151 = .ok (.iastore, 1) := by decide +kernel
theorem dX12_readsPerson_152 : decode cX12_readsPerson 152 = .ok (.aload_n 0, 1) := by decide +kernel
theorem dX12_readsPerson_153 : decode cX12_readsPerson 153 = .ok (.invokevirtual 200, 3) := by decide +kernel
theorem dX12_readsPerson_156 : decode cX12_readsPerson 156 = .ok (.aload_n 0, 1) := by decide +kernel
theorem dX12_readsPerson_157 : decode cX12_readsPerson 157 = .ok (.ldc2_w 226, 3) := by decide +kernel
theorem dX12_readsPerson_160 : decode cX12_readsPerson 160 = .ok (.iconst 0, 1) := by decide +kernel
theorem dX12_readsPerson_161 : decode cX12_readsPerson 161 = .ok (.bipush 30, 2) := by decide +kernel
theorem dX12_readsPerson_163 : decode cX12_readsPerson 163 = .ok (.invokevirtual 282, 3) := by decide +kernel
theorem dX12_readsPerson_166 : decode cX12_readsPerson 166 = .ok (.ifCond .ne 5, 3) := by decide +kernel
theorem dX12_readsPerson_169 : decode cX12_readsPerson 169 = .ok (.iconst 0, 1) := by decide +kernel
theorem dX12_readsPerson_170 : decode cX12_readsPerson 170 = .ok (.ireturn, 1) := by decide +kernel
theorem dX12_readsPerson_171 : decode cX12_readsPerson 171 = .ok (.aload_n 0, 1) := by decide +kernel
theorem dX12_readsPerson_172 : decode cX12_readsPerson 172 = .ok (.getfield 35, 3) := by decide +kernel
theorem dX12_readsPerson_175 : decode cX12_readsPerson 175 = .ok (.iload_n 1, 1) := by decide +kernel
theorem dX12_readsPerson_176 : decode cX12_readsPerson 176 = .ok (.aload_n 0, 1) := by decide +kernel
theorem dX12_readsPerson_177 : decode cX12_readsPerson 177 = .ok (.getfield 256, 3) := by decide +kernel
theorem dX12_readsPerson_180 : decode cX12_readsPerson 180 = .ok (.iastore, 1) := by decide +kernel
theorem dX12_readsPerson_181 : decode cX12_readsPerson 181 = .ok (.aload_n 0, 1) := by decide +kernel
theorem dX12_readsPerson_182 : decode cX12_readsPerson 182 = .ok (.ldc2_w 228, 3) := by decide +kernel
theorem dX12_readsPerson_185 : decode cX12_readsPerson 185 = .ok (.iconst 0, 1) := by decide +kernel
theorem dX12_readsPerson_186 : decode cX12_readsPerson 186 = .ok (.bipush 99, 2) := by decide +kernel
theorem dX12_readsPerson_188 : decode cX12_readsPerson 188 = .ok (.invokevirtual 282, 3) := by decide +kernel
theorem dX12_readsPerson_191 : decode cX12_readsPerson 191 = .ok (.ifCond .ne 5, 3) := by decide +kernel
theorem dX12_readsPerson_194 : decode cX12_readsPerson 194 = .ok (.iconst 0, 1) := by decide +kernel
theorem dX12_readsPerson_195 : decode cX12_readsPerson 195 = .ok (.ireturn, 1) := by decide +kernel
theorem dX12_readsPerson_196 : decode cX12_readsPerson 196 = .ok (.aload_n 0, 1) := by decide +kernel
theorem dX12_readsPerson_197 : decode cX12_readsPerson 197 = .ok (.getfield 38, 3) := by decide +kernel
theorem dX12_readsPerson_200 : decode cX12_readsPerson 200 = .ok (.iload_n 1, 1) := by decide +kernel
theorem dX12_readsPerson_201 : decode cX12_readsPerson 201 = .ok (.aload_n 0, 1) := by decide +kernel
theorem dX12_readsPerson_202 : decode cX12_readsPerson 202 = .ok (.getfield 256, 3) := by decide +kernel
theorem dX12_readsPerson_205 : decode cX12_readsPerson 205 = .ok (.iastore, 1) := by decide +kernel
theorem dX12_readsPerson_206 : decode cX12_readsPerson 206 = .ok (.aload_n 0, 1) := by decide +kernel
theorem dX12_readsPerson_207 : decode cX12_readsPerson 207 = .ok (.getfield 20, 3) := by decide +kernel
theorem dX12_readsPerson_210 : decode cX12_readsPerson 210 = .ok (.iload_n 1, 1) := by decide +kernel
theorem dX12_readsPerson_211 : decode cX12_readsPerson 211 = .ok (.lload_n 2, 1) := by decide +kernel
theorem dX12_readsPerson_212 : decode cX12_readsPerson 212 = .ok (.lastore, 1) := by decide +kernel
theorem dX12_readsPerson_213 : decode cX12_readsPerson 213 = .ok (.aload_n 0, 1) := by decide +kernel
theorem dX12_readsPerson_214 : decode cX12_readsPerson 214 = .ok (.getfield 13, 3) := by decide +kernel
theorem dX12_readsPerson_217 : decode cX12_readsPerson 217 = .ok (.iconst 5, 1) := by decide +kernel
theorem dX12_readsPerson_218 : decode cX12_readsPerson 218 = .ok (.dup2, 1) := by decide +kernel
theorem dX12_readsPerson_219 : decode cX12_readsPerson 219 = .ok (.iaload, 1) := by decide +kernel
theorem dX12_readsPerson_220 : decode cX12_readsPerson 220 = .ok (.iconst 1, 1) := by decide +kernel
theorem dX12_readsPerson_221 : decode cX12_readsPerson 221 = .ok (.iadd, 1) := by decide +kernel
theorem dX12_readsPerson_222 : decode cX12_readsPerson 222 = .ok (.iastore, 1) := by decide +kernel
theorem dX12_readsPerson_223 : decode cX12_readsPerson 223 = .ok (.aload_n 0, 1) := by decide +kernel
theorem dX12_readsPerson_224 : decode cX12_readsPerson 224 = .ok (.invokevirtual 286, 3) := by decide +kernel
theorem dX12_readsPerson_227 : decode cX12_readsPerson 227 = .ok (.ireturn, 1) := by decide +kernel
theorem dX12_readsOne_0 : decode cX12_readsOne 0 = .ok (.aload_n 0, 1) := by decide +kernel
theorem dX12_readsOne_1 : decode cX12_readsOne 1 = .ok (.getfield 292, 3) := by decide +kernel
theorem dX12_readsOne_4 : decode cX12_readsOne 4 = .ok (.iload_n 1, 1) := by decide +kernel
theorem dX12_readsOne_5 : decode cX12_readsOne 5 = .ok (.ishr, 1) := by decide +kernel
theorem dX12_readsOne_6 : decode cX12_readsOne 6 = .ok (.iconst 1, 1) := by decide +kernel
theorem dX12_readsOne_7 : decode cX12_readsOne 7 = .ok (.iand, 1) := by decide +kernel
theorem dX12_readsOne_8 : decode cX12_readsOne 8 = .ok (.iconst 1, 1) := by decide +kernel
theorem dX12_readsOne_9 : decode cX12_readsOne 9 = .ok (.if_icmp .ne 9, 3) := by decide +kernel
theorem dX12_readsOne_12 : decode cX12_readsOne 12 = .ok (.aload_n 0, 1) := by decide +kernel
theorem dX12_readsOne_13 : decode cX12_readsOne 13 = .ok (.iconst 3, 1) := by decide +kernel
theorem dX12_readsOne_14 : decode cX12_readsOne 14 = .ok (.invokevirtual 193, 3) := by decide +kernel
theorem dX12_readsOne_17 : decode cX12_readsOne 17 = .ok (.ireturn, 1) := by decide +kernel
theorem dX12_readsOne_18 : decode cX12_readsOne 18 = .ok (.aload_n 0, 1) := by decide +kernel
theorem dX12_readsOne_19 : decode cX12_readsOne 19 = .ok (.dup, 1) := by decide +kernel
theorem dX12_readsOne_20 : decode cX12_readsOne 20 = .ok (.getfield 292, 3) := by decide +kernel
theorem dX12_readsOne_23 : decode cX12_readsOne 23 = .ok (.iconst 1, 1) := by decide +kernel
theorem dX12_readsOne_24 : decode cX12_readsOne 24 = .ok (.iload_n 1, 1) := by decide +kernel
theorem dX12_readsOne_25 : decode cX12_readsOne 25 = .ok (.ishl, 1) := by decide +kernel
theorem dX12_readsOne_26 : decode cX12_readsOne 26 = .ok (.ior, 1) := by decide +kernel
theorem dX12_readsOne_27 : decode cX12_readsOne 27 = .ok (.putfield 292, 3) := by decide +kernel
theorem dX12_readsOne_30 : decode cX12_readsOne 30 = .ok (.aload_n 0, 1) := by decide +kernel
theorem dX12_readsOne_31 : decode cX12_readsOne 31 = .ok (.invokevirtual 200, 3) := by decide +kernel
theorem dX12_readsOne_34 : decode cX12_readsOne 34 = .ok (.aload_n 0, 1) := by decide +kernel
theorem dX12_readsOne_35 : decode cX12_readsOne 35 = .ok (.iload_n 2, 1) := by decide +kernel
theorem dX12_readsOne_36 : decode cX12_readsOne 36 = .ok (.iload_n 3, 1) := by decide +kernel
theorem dX12_readsOne_37 : decode cX12_readsOne 37 = .ok (.invokevirtual 262, 3) := by decide +kernel
theorem dX12_readsOne_40 : decode cX12_readsOne 40 = .ok (.ifCond .ne 5, 3) := by decide +kernel
theorem dX12_readsOne_43 : decode cX12_readsOne 43 = .ok (.iconst 0, 1) := by decide +kernel
theorem dX12_readsOne_44 : decode cX12_readsOne 44 = .ok (.ireturn, 1) := by decide +kernel
theorem dX12_readsOne_45 : decode cX12_readsOne 45 = .ok (.aload_n 0, 1) := by decide +kernel
theorem dX12_readsOne_46 : decode cX12_readsOne 46 = .ok (.getfield 13, 3) := by decide +kernel
theorem dX12_readsOne_49 : decode cX12_readsOne 49 = .ok (.iconst 4, 1) := by decide +kernel
theorem dX12_readsOne_50 : decode cX12_readsOne 50 = .ok (.iload_n 1, 1) := by decide +kernel
theorem dX12_readsOne_51 : decode cX12_readsOne 51 = .ok (.iadd, 1) := by decide +kernel
theorem dX12_readsOne_52 : decode cX12_readsOne 52 = .ok (.aload_n 0, 1) := by decide +kernel
theorem dX12_readsOne_53 : decode cX12_readsOne 53 = .ok (.getfield 256, 3) := by decide +kernel
theorem dX12_readsOne_56 : decode cX12_readsOne 56 = .ok (.iastore, 1) := by decide +kernel
theorem dX12_readsOne_57 : decode cX12_readsOne 57 = .ok (.aload_n 0, 1) := by decide +kernel
theorem dX12_readsOne_58 : decode cX12_readsOne 58 = .ok (.invokevirtual 286, 3) := by decide +kernel
theorem dX12_readsOne_61 : decode cX12_readsOne 61 = .ok (.ireturn, 1) := by decide +kernel
theorem dX12_readsReads_0 : decode cX12_readsReads 0 = .ok (.aload_n 0, 1) := by decide +kernel
theorem dX12_readsReads_1 : decode cX12_readsReads 1 = .ok (.getfield 44, 3) := by decide +kernel
theorem dX12_readsReads_4 : decode cX12_readsReads 4 = .ok (.iconst 1, 1) := by decide +kernel
theorem dX12_readsReads_5 : decode cX12_readsReads 5 = .ok (.iaload, 1) := by decide +kernel
theorem dX12_readsReads_6 : decode cX12_readsReads 6 = .ok (.aload_n 0, 1) := by decide +kernel
theorem dX12_readsReads_7 : decode cX12_readsReads 7 = .ok (.getfield 41, 3) := by decide +kernel
theorem dX12_readsReads_10 : decode cX12_readsReads 10 = .ok (.iconst 1, 1) := by decide +kernel
theorem dX12_readsReads_11 : decode cX12_readsReads 11 = .ok (.iaload, 1) := by decide +kernel
theorem dX12_readsReads_12 : decode cX12_readsReads 12 = .ok (.if_icmp .le 9, 3) := by decide +kernel
theorem dX12_readsReads_15 : decode cX12_readsReads 15 = .ok (.aload_n 0, 1) := by decide +kernel
theorem dX12_readsReads_16 : decode cX12_readsReads 16 = .ok (.iconst 3, 1) := by decide +kernel
theorem dX12_readsReads_17 : decode cX12_readsReads 17 = .ok (.invokevirtual 193, 3) := by decide +kernel
theorem dX12_readsReads_20 : decode cX12_readsReads 20 = .ok (.ireturn, 1) := by decide +kernel
theorem dX12_readsReads_21 : decode cX12_readsReads 21 = .ok (.aload_n 0, 1) := by decide +kernel
theorem dX12_readsReads_22 : decode cX12_readsReads 22 = .ok (.invokevirtual 200, 3) := by decide +kernel
theorem dX12_readsReads_25 : decode cX12_readsReads 25 = .ok (.aload_n 0, 1) := by decide +kernel
theorem dX12_readsReads_26 : decode cX12_readsReads 26 = .ok (.getfield 41, 3) := by decide +kernel
theorem dX12_readsReads_29 : decode cX12_readsReads 29 = .ok (.iconst 1, 1) := by decide +kernel
theorem dX12_readsReads_30 : decode cX12_readsReads 30 = .ok (.aload_n 0, 1) := by decide +kernel
theorem dX12_readsReads_31 : decode cX12_readsReads 31 = .ok (.getfield 168, 3) := by decide +kernel
theorem dX12_readsReads_34 : decode cX12_readsReads 34 = .ok (.iastore, 1) := by decide +kernel
theorem dX12_readsReads_35 : decode cX12_readsReads 35 = .ok (.aload_n 0, 1) := by decide +kernel
theorem dX12_readsReads_36 : decode cX12_readsReads 36 = .ok (.invokevirtual 295, 3) := by decide +kernel
theorem dX12_readsReads_39 : decode cX12_readsReads 39 = .ok (.ifCond .ne 5, 3) := by decide +kernel
theorem dX12_readsReads_42 : decode cX12_readsReads 42 = .ok (.iconst 0, 1) := by decide +kernel
theorem dX12_readsReads_43 : decode cX12_readsReads 43 = .ok (.ireturn, 1) := by decide +kernel
theorem dX12_readsReads_44 : decode cX12_readsReads 44 = .ok (.aload_n 0, 1) := by decide +kernel
theorem dX12_readsReads_45 : decode cX12_readsReads 45 = .ok (.getfield 44, 3) := by decide +kernel
theorem dX12_readsReads_48 : decode cX12_readsReads 48 = .ok (.iconst 1, 1) := by decide +kernel
theorem dX12_readsReads_49 : decode cX12_readsReads 49 = .ok (.aload_n 0, 1) := by decide +kernel
theorem dX12_readsReads_50 : decode cX12_readsReads 50 = .ok (.getfield 168, 3) := by decide +kernel
theorem dX12_readsReads_53 : decode cX12_readsReads 53 = .ok (.iastore, 1) := by decide +kernel
theorem dX12_readsReads_54 : decode cX12_readsReads 54 = .ok (.iconst 1, 1) := by decide +kernel
theorem dX12_readsReads_55 : decode cX12_readsReads 55 = .ok (.ireturn, 1) := by decide +kernel
theorem dX12_begins_0 : decode cX12_begins 0 = .ok (.aload_n 0, 1) := by decide +kernel
theorem dX12_begins_1 : decode cX12_begins 1 = .ok (.aload_n 0, 1) := by decide +kernel
theorem dX12_begins_2 : decode cX12_begins 2 = .ok (.getfield 135, 3) := by decide +kernel
theorem dX12_begins_5 : decode cX12_begins 5 = .ok (.putfield 138, 3) := by decide +kernel
theorem dX12_begins_8 : decode cX12_begins 8 = .ok (.aload_n 0, 1) := by decide +kernel
theorem dX12_begins_9 : decode cX12_begins 9 = .ok (.iconst 0, 1) := by decide +kernel
theorem dX12_begins_10 : decode cX12_begins 10 = .ok (.putfield 135, 3) := by decide +kernel
theorem dX12_begins_13 : decode cX12_begins 13 = .ok (.aload_n 0, 1) := by decide +kernel
theorem dX12_begins_14 : decode cX12_begins 14 = .ok (.iconst 0, 1) := by decide +kernel
theorem dX12_begins_15 : decode cX12_begins 15 = .ok (.putfield 141, 3) := by decide +kernel
theorem dX12_begins_18 : decode cX12_begins 18 = .ok (.aload_n 0, 1) := by decide +kernel
theorem dX12_begins_19 : decode cX12_begins 19 = .ok (.invokevirtual 200, 3) := by decide +kernel
theorem dX12_begins_22 : decode cX12_begins 22 = .ok (.return_, 1) := by decide +kernel
theorem dX12_readsAll_0 : decode cX12_readsAll 0 = .ok (.aload_n 0, 1) := by decide +kernel
theorem dX12_readsAll_1 : decode cX12_readsAll 1 = .ok (.getfield 13, 3) := by decide +kernel
theorem dX12_readsAll_4 : decode cX12_readsAll 4 = .ok (.iconst 4, 1) := by decide +kernel
theorem dX12_readsAll_5 : decode cX12_readsAll 5 = .ok (.iconst 0, 1) := by decide +kernel
theorem dX12_readsAll_6 : decode cX12_readsAll 6 = .ok (.iastore, 1) := by decide +kernel
theorem dX12_readsAll_7 : decode cX12_readsAll 7 = .ok (.aload_n 0, 1) := by decide +kernel
theorem dX12_readsAll_8 : decode cX12_readsAll 8 = .ok (.getfield 13, 3) := by decide +kernel
theorem dX12_readsAll_11 : decode cX12_readsAll 11 = .ok (.iconst 5, 1) := by decide +kernel
theorem dX12_readsAll_12 : decode cX12_readsAll 12 = .ok (.iconst 0, 1) := by decide +kernel
theorem dX12_readsAll_13 : decode cX12_readsAll 13 = .ok (.iastore, 1) := by decide +kernel
theorem dX12_readsAll_14 : decode cX12_readsAll 14 = .ok (.aload_n 0, 1) := by decide +kernel
theorem dX12_readsAll_15 : decode cX12_readsAll 15 = .ok (.getfield 13, 3) := by decide +kernel
theorem dX12_readsAll_18 : decode cX12_readsAll 18 = .ok (.bipush 6, 2) := by decide +kernel
theorem dX12_readsAll_20 : decode cX12_readsAll 20 = .ok (.iconst 1, 1) := by decide +kernel
theorem dX12_readsAll_21 : decode cX12_readsAll 21 = .ok (.iastore, 1) := by decide +kernel
theorem dX12_readsAll_22 : decode cX12_readsAll 22 = .ok (.aload_n 0, 1) := by decide +kernel
theorem dX12_readsAll_23 : decode cX12_readsAll 23 = .ok (.getfield 13, 3) := by decide +kernel
theorem dX12_readsAll_26 : decode cX12_readsAll 26 = .ok (.bipush 7, 2) := by decide +kernel
theorem dX12_readsAll_28 : decode cX12_readsAll 28 = .ok (.iconst 2, 1) := by decide +kernel
theorem dX12_readsAll_29 : decode cX12_readsAll 29 = .ok (.iastore, 1) := by decide +kernel
theorem dX12_readsAll_30 : decode cX12_readsAll 30 = .ok (.aload_n 0, 1) := by decide +kernel
theorem dX12_readsAll_31 : decode cX12_readsAll 31 = .ok (.getfield 41, 3) := by decide +kernel
theorem dX12_readsAll_34 : decode cX12_readsAll 34 = .ok (.iconst 1, 1) := by decide +kernel
theorem dX12_readsAll_35 : decode cX12_readsAll 35 = .ok (.sipush 1000, 3) := by decide +kernel
theorem dX12_readsAll_38 : decode cX12_readsAll 38 = .ok (.iastore, 1) := by decide +kernel
theorem dX12_readsAll_39 : decode cX12_readsAll 39 = .ok (.aload_n 0, 1) := by decide +kernel
theorem dX12_readsAll_40 : decode cX12_readsAll 40 = .ok (.getfield 44, 3) := by decide +kernel
theorem dX12_readsAll_43 : decode cX12_readsAll 43 = .ok (.iconst 1, 1) := by decide +kernel
theorem dX12_readsAll_44 : decode cX12_readsAll 44 = .ok (.sipush 1000, 3) := by decide +kernel
theorem dX12_readsAll_47 : decode cX12_readsAll 47 = .ok (.iastore, 1) := by decide +kernel
theorem dX12_readsAll_48 : decode cX12_readsAll 48 = .ok (.aload_n 0, 1) := by decide +kernel
theorem dX12_readsAll_49 : decode cX12_readsAll 49 = .ok (.iconst 0, 1) := by decide +kernel
theorem dX12_readsAll_50 : decode cX12_readsAll 50 = .ok (.putfield 292, 3) := by decide +kernel
theorem dX12_readsAll_53 : decode cX12_readsAll 53 = .ok (.aload_n 0, 1) := by decide +kernel
theorem dX12_readsAll_54 : decode cX12_readsAll 54 = .ok (.sipush 1000, 3) := by decide +kernel
theorem dX12_readsAll_57 : decode cX12_readsAll 57 = .ok (.putfield 168, 3) := by decide +kernel
theorem dX12_readsAll_60 : decode cX12_readsAll 60 = .ok (.aload_n 0, 1) := by decide +kernel
theorem dX12_readsAll_61 : decode cX12_readsAll 61 = .ok (.invokevirtual 298, 3) := by decide +kernel
theorem dX12_readsAll_64 : decode cX12_readsAll 64 = .ok (.aload_n 0, 1) := by decide +kernel
theorem dX12_readsAll_65 : decode cX12_readsAll 65 = .ok (.getfield 154, 3) := by decide +kernel
theorem dX12_readsAll_68 : decode cX12_readsAll 68 = .ok (.ifCond .eq 127, 3) := by decide +kernel
theorem dX12_readsAll_71 : decode cX12_readsAll 71 = .ok (.aload_n 0, 1) := by decide +kernel
theorem dX12_readsAll_72 : decode cX12_readsAll 72 = .ok (.ldc2_w 216, 3) := by decide +kernel
theorem dX12_readsAll_75 : decode cX12_readsAll 75 = .ok (.invokevirtual 185, 3) := by decide +kernel
theorem dX12_readsAll_78 : decode cX12_readsAll 78 = .ok (.ifCond .eq 10, 3) := by decide +kernel
theorem dX12_readsAll_81 : decode cX12_readsAll 81 = .ok (.aload_n 0, 1) := by decide +kernel
theorem dX12_readsAll_82 : decode cX12_readsAll 82 = .ok (.invokevirtual 301, 3) := by decide +kernel
theorem dX12_readsAll_85 : decode cX12_readsAll 85 = .ok (.goto 100, 3) := by decide +kernel
theorem dX12_readsAll_88 : decode cX12_readsAll 88 = .ok (.aload_n 0, 1) := by decide +kernel
theorem dX12_readsAll_89 : decode cX12_readsAll 89 = .ok (.ldc2_w 220, 3) := by decide +kernel
theorem dX12_readsAll_92 : decode cX12_readsAll 92 = .ok (.invokevirtual 185, 3) := by decide +kernel
theorem dX12_readsAll_95 : decode cX12_readsAll 95 = .ok (.ifCond .eq 10, 3) := by decide +kernel
theorem dX12_readsAll_98 : decode cX12_readsAll 98 = .ok (.aload_n 0, 1) := by decide +kernel
theorem dX12_readsAll_99 : decode cX12_readsAll 99 = .ok (.invokevirtual 304, 3) := by decide +kernel
theorem dX12_readsAll_102 : decode cX12_readsAll 102 = .ok (.goto 83, 3) := by decide +kernel
theorem dX12_readsAll_105 : decode cX12_readsAll 105 = .ok (.aload_n 0, 1) := by decide +kernel
theorem dX12_readsAll_106 : decode cX12_readsAll 106 = .ok (.ldc2_w 222, 3) := by decide +kernel
theorem dX12_readsAll_109 : decode cX12_readsAll 109 = .ok (.invokevirtual 185, 3) := by decide +kernel
theorem dX12_readsAll_112 : decode cX12_readsAll 112 = .ok (.ifCond .eq 10, 3) := by decide +kernel
theorem dX12_readsAll_115 : decode cX12_readsAll 115 = .ok (.aload_n 0, 1) := by decide +kernel
theorem dX12_readsAll_116 : decode cX12_readsAll 116 = .ok (.invokevirtual 307, 3) := by decide +kernel
theorem dX12_readsAll_119 : decode cX12_readsAll 119 = .ok (.goto 66, 3) := by decide +kernel
theorem dX12_readsAll_122 : decode cX12_readsAll 122 = .ok (.aload_n 0, 1) := by decide +kernel
theorem dX12_readsAll_123 : decode cX12_readsAll 123 = .ok (.ldc2_w 230, 3) := by decide +kernel
theorem dX12_readsAll_126 : decode cX12_readsAll 126 = .ok (.invokevirtual 185, 3) := by decide +kernel
theorem dX12_readsAll_129 : decode cX12_readsAll 129 = .ok (.ifCond .eq 13, 3) := by decide +kernel
theorem dX12_readsAll_132 : decode cX12_readsAll 132 = .ok (.aload_n 0, 1) := by decide +kernel
theorem dX12_readsAll_133 : decode cX12_readsAll 133 = .ok (.iconst 2, 1) := by decide +kernel
theorem dX12_readsAll_134 : decode cX12_readsAll 134 = .ok (.iconst 0, 1) := by decide +kernel
theorem dX12_readsAll_135 : decode cX12_readsAll 135 = .ok (.iconst 5, 1) := by decide +kernel
theorem dX12_readsAll_136 : decode cX12_readsAll 136 = .ok (.invokevirtual 310, 3) := by decide +kernel
theorem dX12_readsAll_139 : decode cX12_readsAll 139 = .ok (.goto 46, 3) := by decide +kernel
theorem dX12_readsAll_142 : decode cX12_readsAll 142 = .ok (.aload_n 0, 1) := by decide +kernel
theorem dX12_readsAll_143 : decode cX12_readsAll 143 = .ok (.ldc2_w 232, 3) := by decide +kernel
theorem dX12_readsAll_146 : decode cX12_readsAll 146 = .ok (.invokevirtual 185, 3) := by decide +kernel
theorem dX12_readsAll_149 : decode cX12_readsAll 149 = .ok (.ifCond .eq 14, 3) := by decide +kernel
theorem dX12_readsAll_152 : decode cX12_readsAll 152 = .ok (.aload_n 0, 1) := by decide +kernel
theorem dX12_readsAll_153 : decode cX12_readsAll 153 = .ok (.iconst 3, 1) := by decide +kernel
theorem dX12_readsAll_154 : decode cX12_readsAll 154 = .ok (.iconst 1, 1) := by decide +kernel
theorem dX12_readsAll_155 : decode cX12_readsAll 155 = .ok (.bipush 9, 2) := by decide +kernel
theorem dX12_readsAll_157 : decode cX12_readsAll 157 = .ok (.invokevirtual 310, 3) := by decide +kernel
theorem dX12_readsAll_160 : decode cX12_readsAll 160 = .ok (.goto 25, 3) := by decide +kernel
theorem dX12_readsAll_163 : decode cX12_readsAll 163 = .ok (.aload_n 0, 1) := by decide +kernel
theorem dX12_readsAll_164 : decode cX12_readsAll 164 = .ok (.ldc2_w 234, 3) := by decide +kernel
theorem dX12_readsAll_167 : decode cX12_readsAll 167 = .ok (.invokevirtual 185, 3) := by decide +kernel
theorem dX12_readsAll_170 : decode cX12_readsAll 170 = .ok (.ifCond .eq 10, 3) := by decide +kernel
theorem dX12_readsAll_173 : decode cX12_readsAll 173 = .ok (.aload_n 0, 1) := by decide +kernel
theorem dX12_readsAll_174 : decode cX12_readsAll 174 = .ok (.invokevirtual 313, 3) := by decide +kernel
theorem dX12_readsAll_177 : decode cX12_readsAll 177 = .ok (.goto 8, 3) := by decide +kernel
theorem dX12_readsAll_180 : decode cX12_readsAll 180 = .ok (.aload_n 0, 1) := by decide +kernel
theorem dX12_readsAll_181 : decode cX12_readsAll 181 = .ok (.iconst 1, 1) := by decide +kernel
theorem dX12_readsAll_182 : decode cX12_readsAll 182 = .ok (.invokevirtual 193, 3) := by decide +kernel
theorem dX12_readsAll_185 : decode cX12_readsAll 185 = .ok (.istore_n 1, 1) := by decide +kernel
theorem dX12_readsAll_186 : decode cX12_readsAll 186 = .ok (.iload_n 1, 1) := by decide +kernel
theorem dX12_readsAll_187 : decode cX12_readsAll 187 = .ok (.ifCond .ne 5, 3) := by decide +kernel
theorem dX12_readsAll_190 : decode cX12_readsAll 190 = .ok (.iconst 0, 1) := by decide +kernel
theorem dX12_readsAll_191 : decode cX12_readsAll 191 = .ok (.ireturn, 1) := by decide +kernel
theorem dX12_readsAll_192 : decode cX12_readsAll 192 = .ok (.goto (-128), 3) := by decide +kernel
theorem dX12_readsAll_195 : decode cX12_readsAll 195 = .ok (.iconst 1, 1) := by decide +kernel
theorem dX12_readsAll_196 : decode cX12_readsAll 196 = .ok (.ireturn, 1) := by decide +kernel
theorem dX12_shifts_0 : decode cX12_shifts 0 = .ok (.iconst 0, 1) := by decide +kernel
theorem dX12_shifts_1 : decode cX12_shifts 1 = .ok (.istore_n 2, 1) := by decide +kernel
theorem dX12_shifts_2 : decode cX12_shifts 2 = .ok (.iload_n 2, 1) := by decide +kernel
theorem dX12_shifts_3 : decode cX12_shifts 3 = .ok (.iload_n 1, 1) := by decide +kernel
theorem dX12_shifts_4 : decode cX12_shifts 4 = .ok (.if_icmp .ge 17, 3) := by decide +kernel
theorem dX12_shifts_7 : decode cX12_shifts 7 = .ok (.aload_n 0, 1) := by decide +kernel
theorem dX12_shifts_8 : decode cX12_shifts 8 = .ok (.iload_n 2, 1) := by decide +kernel
theorem dX12_shifts_9 : decode cX12_shifts 9 = .ok (.aload_n 0, 1) := by decide +kernel
theorem dX12_shifts_10 : decode cX12_shifts 10 = .ok (.iload_n 1, 1) := by decide +kernel
theorem dX12_shifts_11 : decode cX12_shifts 11 = .ok (.iload_n 2, 1) := by decide +kernel
theorem dX12_shifts_12 : decode cX12_shifts 12 = .ok (.iadd, 1) := by decide +kernel
theorem dX12_shifts_13 : decode cX12_shifts 13 = .ok (.iaload, 1) := by decide +kernel
theorem dX12_shifts_14 : decode cX12_shifts 14 = .ok (.iastore, 1) := by decide +kernel
theorem dX12_shifts_15 : decode cX12_shifts 15 = .ok (.iinc 2 1, 3) := by decide +kernel
theorem dX12_shifts_18 : decode cX12_shifts 18 = .ok (.goto (-16), 3) := by decide +kernel
theorem dX12_shifts_21 : decode cX12_shifts 21 = .ok (.return_, 1) := by decide +kernel
theorem dX12_shiftsNames_0 : decode cX12_shiftsNames 0 = .ok (.iconst 0, 1) := by decide +kernel
theorem dX12_shiftsNames_1 : decode cX12_shiftsNames 1 = .ok (.istore_n 1, 1) := by decide +kernel
theorem dX12_shiftsNames_2 : decode cX12_shiftsNames 2 = .ok (.iload_n 1, 1) := by decide +kernel
theorem dX12_shiftsNames_3 : decode cX12_shiftsNames 3 = .ok (.bipush 6, 2) := by decide +kernel
theorem dX12_shiftsNames_5 : decode cX12_shiftsNames 5 = .ok (.if_icmp .ge 18, 3) := by decide +kernel
theorem dX12_shiftsNames_8 : decode cX12_shiftsNames 8 = .ok (.aload_n 0, 1) := by decide +kernel
theorem dX12_shiftsNames_9 : decode cX12_shiftsNames 9 = .ok (.iload_n 1, 1) := by decide +kernel
theorem dX12_shiftsNames_10 : decode cX12_shiftsNames 10 = .ok (.aload_n 0, 1) := by decide +kernel
theorem dX12_shiftsNames_11 : decode cX12_shiftsNames 11 = .ok (.bipush 6, 2) := by decide +kernel
theorem dX12_shiftsNames_13 : decode cX12_shiftsNames 13 = .ok (.iload_n 1, 1) := by decide +kernel
theorem dX12_shiftsNames_14 : decode cX12_shiftsNames 14 = .ok (.iadd, 1) := by decide +kernel
theorem dX12_shiftsNames_15 : decode cX12_shiftsNames 15 = .ok (.laload, 1) := by decide +kernel
theorem dX12_shiftsNames_16 : decode cX12_shiftsNames 16 = .ok (.lastore, 1) := by decide +kernel
theorem dX12_shiftsNames_17 : decode cX12_shiftsNames 17 = .ok (.iinc 1 1, 3) := by decide +kernel
theorem dX12_shiftsNames_20 : decode cX12_shiftsNames 20 = .ok (.goto (-18), 3) := by decide +kernel
theorem dX12_shiftsNames_23 : decode cX12_shiftsNames 23 = .ok (.return_, 1) := by decide +kernel
theorem dX12_lays_0 : decode cX12_lays 0 = .ok (.aload_n 0, 1) := by decide +kernel
theorem dX12_lays_1 : decode cX12_lays 1 = .ok (.getfield 13, 3) := by decide +kernel
theorem dX12_lays_4 : decode cX12_lays 4 = .ok (.iconst 4, 1) := by decide +kernel
theorem dX12_lays_5 : decode cX12_lays 5 = .ok (.invokestatic 316, 3) := by decide +kernel
theorem dX12_lays_8 : decode cX12_lays 8 = .ok (.aload_n 0, 1) := by decide +kernel
theorem dX12_lays_9 : decode cX12_lays 9 = .ok (.getfield 16, 3) := by decide +kernel
theorem dX12_lays_12 : decode cX12_lays 12 = .ok (.invokestatic 320, 3) := by decide +kernel
theorem dX12_lays_15 : decode cX12_lays 15 = .ok (.aload_n 0, 1) := by decide +kernel
theorem dX12_lays_16 : decode cX12_lays 16 = .ok (.getfield 20, 3) := by decide +kernel
theorem dX12_lays_19 : decode cX12_lays 19 = .ok (.invokestatic 320, 3) := by decide +kernel
theorem dX12_lays_22 : decode cX12_lays 22 = .ok (.aload_n 0, 1) := by decide +kernel
theorem dX12_lays_23 : decode cX12_lays 23 = .ok (.getfield 23, 3) := by decide +kernel
theorem dX12_lays_26 : decode cX12_lays 26 = .ok (.bipush 6, 2) := by decide +kernel
theorem dX12_lays_28 : decode cX12_lays 28 = .ok (.invokestatic 316, 3) := by decide +kernel
theorem dX12_lays_31 : decode cX12_lays 31 = .ok (.aload_n 0, 1) := by decide +kernel
theorem dX12_lays_32 : decode cX12_lays 32 = .ok (.getfield 26, 3) := by decide +kernel
theorem dX12_lays_35 : decode cX12_lays 35 = .ok (.bipush 6, 2) := by decide +kernel
theorem dX12_lays_37 : decode cX12_lays 37 = .ok (.invokestatic 316, 3) := by decide +kernel
theorem dX12_lays_40 : decode cX12_lays 40 = .ok (.aload_n 0, 1) := by decide +kernel
theorem dX12_lays_41 : decode cX12_lays 41 = .ok (.getfield 29, 3) := by decide +kernel
theorem dX12_lays_44 : decode cX12_lays 44 = .ok (.bipush 6, 2) := by decide +kernel
theorem dX12_lays_46 : decode cX12_lays 46 = .ok (.invokestatic 316, 3) := by decide +kernel
theorem dX12_lays_49 : decode cX12_lays 49 = .ok (.aload_n 0, 1) := by decide +kernel
theorem dX12_lays_50 : decode cX12_lays 50 = .ok (.getfield 32, 3) := by decide +kernel
theorem dX12_lays_53 : decode cX12_lays 53 = .ok (.bipush 6, 2) := by decide +kernel
theorem dX12_lays_55 : decode cX12_lays 55 = .ok (.invokestatic 316, 3) := by decide +kernel
theorem dX12_lays_58 : decode cX12_lays 58 = .ok (.aload_n 0, 1) := by decide +kernel
theorem dX12_lays_59 : decode cX12_lays 59 = .ok (.getfield 35, 3) := by decide +kernel
theorem dX12_lays_62 : decode cX12_lays 62 = .ok (.bipush 6, 2) := by decide +kernel
theorem dX12_lays_64 : decode cX12_lays 64 = .ok (.invokestatic 316, 3) := by decide +kernel
theorem dX12_lays_67 : decode cX12_lays 67 = .ok (.aload_n 0, 1) := by decide +kernel
theorem dX12_lays_68 : decode cX12_lays 68 = .ok (.getfield 38, 3) := by decide +kernel
theorem dX12_lays_71 : decode cX12_lays 71 = .ok (.bipush 6, 2) := by decide +kernel
theorem dX12_lays_73 : decode cX12_lays 73 = .ok (.invokestatic 316, 3) := by decide +kernel
theorem dX12_lays_76 : decode cX12_lays 76 = .ok (.aload_n 0, 1) := by decide +kernel
theorem dX12_lays_77 : decode cX12_lays 77 = .ok (.getfield 47, 3) := by decide +kernel
theorem dX12_lays_80 : decode cX12_lays 80 = .ok (.sipush 1000, 3) := by decide +kernel
theorem dX12_lays_83 : decode cX12_lays 83 = .ok (.invokestatic 316, 3) := by decide +kernel
theorem dX12_lays_86 : decode cX12_lays 86 = .ok (.aload_n 0, 1) := by decide +kernel
theorem dX12_lays_87 : decode cX12_lays 87 = .ok (.getfield 41, 3) := by decide +kernel
theorem dX12_lays_90 : decode cX12_lays 90 = .ok (.iconst 0, 1) := by decide +kernel
theorem dX12_lays_91 : decode cX12_lays 91 = .ok (.aload_n 0, 1) := by decide +kernel
theorem dX12_lays_92 : decode cX12_lays 92 = .ok (.getfield 41, 3) := by decide +kernel
theorem dX12_lays_95 : decode cX12_lays 95 = .ok (.iconst 1, 1) := by decide +kernel
theorem dX12_lays_96 : decode cX12_lays 96 = .ok (.iaload, 1) := by decide +kernel
theorem dX12_lays_97 : decode cX12_lays 97 = .ok (.sipush 1000, 3) := by decide +kernel
theorem dX12_lays_100 : decode cX12_lays 100 = .ok (.isub, 1) := by decide +kernel
theorem dX12_lays_101 : decode cX12_lays 101 = .ok (.iastore, 1) := by decide +kernel
theorem dX12_lays_102 : decode cX12_lays 102 = .ok (.aload_n 0, 1) := by decide +kernel
theorem dX12_lays_103 : decode cX12_lays 103 = .ok (.getfield 44, 3) := by decide +kernel
theorem dX12_lays_106 : decode cX12_lays 106 = .ok (.iconst 0, 1) := by decide +kernel
theorem dX12_lays_107 : decode cX12_lays 107 = .ok (.aload_n 0, 1) := by decide +kernel
theorem dX12_lays_108 : decode cX12_lays 108 = .ok (.getfield 44, 3) := by decide +kernel
