theorem dX12_thrown_0 : decode cX12_thrown 0 = .ok (.aload_n 0, 1) := by decide +kernel
theorem dX12_thrown_1 : decode cX12_thrown 1 = .ok (.getfield 129, 3) := by decide +kernel
theorem dX12_thrown_4 : decode cX12_thrown 4 = .ok (.ireturn, 1) := by decide +kernel
theorem dX12_within_0 : decode cX12_within 0 = .ok (.iload_n 0, 1) := by decide +kernel
theorem dX12_within_1 : decode cX12_within 1 = .ok (.iload_n 1, 1) := by decide +kernel
theorem dX12_within_2 : decode cX12_within 2 = .ok (.if_icmp .lt 12, 3) := by decide +kernel
theorem dX12_within_5 : decode cX12_within 5 = .ok (.iload_n 0, 1) := by decide +kernel
theorem dX12_within_6 : decode cX12_within 6 = .ok (.iload_n 2, 1) := by decide +kernel
theorem dX12_within_7 : decode cX12_within 7 = .ok (.if_icmp .gt 7, 3) := by decide +kernel
theorem dX12_within_10 : decode cX12_within 10 = .ok (.iconst 1, 1) := by decide +kernel
theorem dX12_within_11 : decode cX12_within 11 = .ok (.goto 4, 3) := by decide +kernel
theorem dX12_within_14 : decode cX12_within 14 = .ok (.iconst 0, 1) := by decide +kernel
theorem dX12_within_15 : decode cX12_within 15 = .ok (.ireturn, 1) := by decide +kernel
theorem dX12_feed_0 : decode cX12_feed 0 = .ok (.aload_n 0, 1) := by decide +kernel
theorem dX12_feed_1 : decode cX12_feed 1 = .ok (.iconst 0, 1) := by decide +kernel
theorem dX12_feed_2 : decode cX12_feed 2 = .ok (.putfield 129, 3) := by decide +kernel
theorem dX12_feed_5 : decode cX12_feed 5 = .ok (.iconst 0, 1) := by decide +kernel
theorem dX12_feed_6 : decode cX12_feed 6 = .ok (.istore 7, 2) := by decide +kernel
theorem dX12_feed_8 : decode cX12_feed 8 = .ok (.iload 7, 2) := by decide +kernel
theorem dX12_feed_10 : decode cX12_feed 10 = .ok (.bipush 24, 2) := by decide +kernel
theorem dX12_feed_12 : decode cX12_feed 12 = .ok (.if_icmp .ge 108, 3) := by decide +kernel
theorem dX12_feed_15 : decode cX12_feed 15 = .ok (.iload 7, 2) := by decide +kernel
theorem dX12_feed_17 : decode cX12_feed 17 = .ok (.bipush 8, 2) := by decide +kernel
theorem dX12_feed_19 : decode cX12_feed 19 = .ok (.if_icmp .ge 7, 3) := by decide +kernel
theorem dX12_feed_22 : decode cX12_feed 22 = .ok (.lload_n 1, 1) := by decide +kernel
theorem dX12_feed_23 : decode cX12_feed 23 = .ok (.goto 16, 3) := by decide +kernel
theorem dX12_feed_26 : decode cX12_feed 26 = .ok (.iload 7, 2) := by decide +kernel
theorem dX12_feed_28 : decode cX12_feed 28 = .ok (.bipush 16, 2) := by decide +kernel
theorem dX12_feed_30 : decode cX12_feed 30 = .ok (.if_icmp .ge 7, 3) := by decide +kernel
theorem dX12_feed_33 : decode cX12_feed 33 = .ok (.lload_n 3, 1) := by decide +kernel
theorem dX12_feed_34 : decode cX12_feed 34 = .ok (.goto 5, 3) := by decide +kernel
theorem dX12_feed_37 : decode cX12_feed 37 = .ok (.lload 5, 2) := by decide +kernel
theorem dX12_feed_39 : decode cX12_feed 39 = .ok (.lstore 8, 2) := by decide +kernel
theorem dX12_feed_41 : decode cX12_feed 41 = .ok (.lload 8, 2) := by decide +kernel
theorem dX12_feed_43 : decode cX12_feed 43 = .ok (.bipush 56, 2) := by decide +kernel
theorem dX12_feed_45 : decode cX12_feed 45 = .ok (.bipush 8, 2) := by decide +kernel
theorem dX12_feed_47 : decode cX12_feed 47 = .ok (.iload 7, 2) := by decide +kernel
theorem dX12_feed_49 : decode cX12_feed 49 = .ok (.bipush 7, 2) := by decide +kernel
theorem dX12_feed_51 : decode cX12_feed 51 = .ok (.iand, 1) := by decide +kernel
theorem dX12_feed_52 : decode cX12_feed 52 = .ok (.imul, 1) := by decide +kernel
theorem dX12_feed_53 : decode cX12_feed 53 = .ok (.isub, 1) := by decide +kernel
theorem dX12_feed_54 : decode cX12_feed 54 = .ok (.lushr, 1) := by decide +kernel
theorem dX12_feed_55 : decode cX12_feed 55 = .ok (.ldc2_w 133, 3) := by decide +kernel
theorem dX12_feed_58 : decode cX12_feed 58 = .ok (.land, 1) := by decide +kernel
theorem dX12_feed_59 : decode cX12_feed 59 = .ok (.l2i, 1) := by decide +kernel
theorem dX12_feed_60 : decode cX12_feed 60 = .ok (.istore 10, 2) := by decide +kernel
theorem dX12_feed_62 : decode cX12_feed 62 = .ok (.aload_n 0, 1) := by decide +kernel
theorem dX12_feed_63 : decode cX12_feed 63 = .ok (.getfield 135, 3) := by decide +kernel
theorem dX12_feed_66 : decode cX12_feed 66 = .ok (.sipush 1000, 3) := by decide +kernel
theorem dX12_feed_69 : decode cX12_feed 69 = .ok (.if_icmp .ge 45, 3) := by decide +kernel
theorem dX12_feed_72 : decode cX12_feed 72 = .ok (.iload 10, 2) := by decide +kernel
theorem dX12_feed_74 : decode cX12_feed 74 = .ok (.bipush 10, 2) := by decide +kernel
theorem dX12_feed_76 : decode cX12_feed 76 = .ok (.if_icmp .eq 17, 3) := by decide +kernel
theorem dX12_feed_79 : decode cX12_feed 79 = .ok (.iload 10, 2) := by decide +kernel
theorem dX12_feed_81 : decode cX12_feed 81 = .ok (.bipush 32, 2) := by decide +kernel
theorem dX12_feed_83 : decode cX12_feed 83 = .ok (.if_icmp .lt 31, 3) := by decide +kernel
theorem dX12_feed_86 : decode cX12_feed 86 = .ok (.iload 10, 2) := by decide +kernel
theorem dX12_feed_88 : decode cX12_feed 88 = .ok (.bipush 126, 2) := by decide +kernel
theorem dX12_feed_90 : decode cX12_feed 90 = .ok (.if_icmp .gt 24, 3) := by decide +kernel
theorem dX12_feed_93 : decode cX12_feed 93 = .ok (.aload_n 0, 1) := by decide +kernel
theorem dX12_feed_94 : decode cX12_feed 94 = .ok (.getfield 7, 3) := by decide +kernel
theorem dX12_feed_97 : decode cX12_feed 97 = .ok (.aload_n 0, 1) := by decide +kernel
theorem dX12_feed_98 : decode cX12_feed 98 = .ok (.getfield 135, 3) := by decide +kernel
theorem dX12_feed_101 : decode cX12_feed 101 = .ok (.iload 10, 2) := by decide +kernel
theorem dX12_feed_103 : decode cX12_feed 103 = .ok (.iastore, 1) := by decide +kernel
theorem dX12_feed_104 : decode cX12_feed 104 = .ok (.aload_n 0, 1) := by decide +kernel
theorem dX12_feed_105 : decode cX12_feed 105 = .ok (.dup, 1) := by decide +kernel
theorem dX12_feed_106 : decode cX12_feed 106 = .ok (.getfield 135, 3) := by decide +kernel
theorem dX12_feed_109 : decode cX12_feed 109 = .ok (.iconst 1, 1) := by decide +kernel
theorem dX12_feed_110 : decode cX12_feed 110 = .ok (.iadd, 1) := by decide +kernel
theorem dX12_feed_111 : decode cX12_feed 111 = .ok (.putfield 135, 3) := by decide +kernel
theorem dX12_feed_114 : decode cX12_feed 114 = .ok (.iinc 7 1, 3) := by decide +kernel
theorem dX12_feed_117 : decode cX12_feed 117 = .ok (.goto (-109), 3) := by decide +kernel
theorem dX12_feed_120 : decode cX12_feed 120 = .ok (.aload_n 0, 1) := by decide +kernel
theorem dX12_feed_121 : decode cX12_feed 121 = .ok (.getfield 135, 3) := by decide +kernel
theorem dX12_feed_124 : decode cX12_feed 124 = .ok (.ireturn, 1) := by decide +kernel
set_option maxRecDepth 20000 in
theorem ggX12_nextToken_X12_signAt : GoodIn wsX12_nextToken wsX12_signAt := goodIn_r _ [14, 2, 3, 15, 16, 17, 18, 19, 20, 21, 22, 23, 24, 25, 26, 27, 28, 29, 30, 31, 32, 33, 34, 35, 36, 37, 38, 39, 40, 41, 42, 43, 44, 45, 46, 47, 48, 49, 50, 51, 52, 53, 54, 55, 56, 57, 58, 59, 60, 61, 62, 63, 64, 65, 66, 67, 68, 69, 70, 71] (by decide +kernel) (by decide +kernel)
set_option maxRecDepth 20000 in
theorem gX12_nextToken_X12_signAt : GoodIn wsX12_nextToken (wsV RX12 157 RX12 yX12_signAt wsX12_signAt) := goodIn_app (goodIn_of _ (by decide +kernel)) ggX12_nextToken_X12_signAt
theorem dX12_nextToken_0 : decode cX12_nextToken 0 = .ok (.aload_n 0, 1) := by decide +kernel
theorem dX12_nextToken_1 : decode cX12_nextToken 1 = .ok (.getfield 141, 3) := by decide +kernel
theorem dX12_nextToken_4 : decode cX12_nextToken 4 = .ok (.aload_n 0, 1) := by decide +kernel
theorem dX12_nextToken_5 : decode cX12_nextToken 5 = .ok (.getfield 138, 3) := by decide +kernel
theorem dX12_nextToken_8 : decode cX12_nextToken 8 = .ok (.if_icmp .ge 44, 3) := by decide +kernel
theorem dX12_nextToken_11 : decode cX12_nextToken 11 = .ok (.aload_n 0, 1) := by decide +kernel
theorem dX12_nextToken_12 : decode cX12_nextToken 12 = .ok (.getfield 7, 3) := by decide +kernel
theorem dX12_nextToken_15 : decode cX12_nextToken 15 = .ok (.aload_n 0, 1) := by decide +kernel
theorem dX12_nextToken_16 : decode cX12_nextToken 16 = .ok (.getfield 141, 3) := by decide +kernel
theorem dX12_nextToken_19 : decode cX12_nextToken 19 = .ok (.iaload, 1) := by decide +kernel
theorem dX12_nextToken_20 : decode cX12_nextToken 20 = .ok (.bipush 32, 2) := by decide +kernel
theorem dX12_nextToken_22 : decode cX12_nextToken 22 = .ok (.if_icmp .eq 17, 3) := by decide +kernel
theorem dX12_nextToken_25 : decode cX12_nextToken 25 = .ok (.aload_n 0, 1) := by decide +kernel
theorem dX12_nextToken_26 : decode cX12_nextToken 26 = .ok (.getfield 7, 3) := by decide +kernel
theorem dX12_nextToken_29 : decode cX12_nextToken 29 = .ok (.aload_n 0, 1) := by decide +kernel
theorem dX12_nextToken_30 : decode cX12_nextToken 30 = .ok (.getfield 141, 3) := by decide +kernel
theorem dX12_nextToken_33 : decode cX12_nextToken 33 = .ok (.iaload, 1) := by decide +kernel
theorem dX12_nextToken_34 : decode cX12_nextToken 34 = .ok (.bipush 10, 2) := by decide +kernel
theorem dX12_nextToken_36 : decode cX12_nextToken 36 = .ok (.if_icmp .ne 16, 3) := by decide +kernel
theorem dX12_nextToken_39 : decode cX12_nextToken 39 = .ok (.aload_n 0, 1) := by decide +kernel
theorem dX12_nextToken_40 : decode cX12_nextToken 40 = .ok (.dup, 1) := by decide +kernel
theorem dX12_nextToken_41 : decode cX12_nextToken 41 = .ok (.getfield 141, 3) := by decide +kernel
theorem dX12_nextToken_44 : decode cX12_nextToken 44 = .ok (.iconst 1, 1) := by decide +kernel
theorem dX12_nextToken_45 : decode cX12_nextToken 45 = .ok (.iadd, 1) := by decide +kernel
theorem dX12_nextToken_46 : decode cX12_nextToken 46 = .ok (.putfield 141, 3) := by decide +kernel
theorem dX12_nextToken_49 : decode cX12_nextToken 49 = .ok (.goto (-49), 3) := by decide +kernel
theorem dX12_nextToken_52 : decode cX12_nextToken 52 = .ok (.aload_n 0, 1) := by decide +kernel
theorem dX12_nextToken_53 : decode cX12_nextToken 53 = .ok (.aload_n 0, 1) := by decide +kernel
theorem dX12_nextToken_54 : decode cX12_nextToken 54 = .ok (.getfield 141, 3) := by decide +kernel
theorem dX12_nextToken_57 : decode cX12_nextToken 57 = .ok (.putfield 144, 3) := by decide +kernel
theorem dX12_nextToken_60 : decode cX12_nextToken 60 = .ok (.aload_n 0, 1) := by decide +kernel
theorem dX12_nextToken_61 : decode cX12_nextToken 61 = .ok (.lconst 0, 1) := by decide +kernel
theorem dX12_nextToken_62 : decode cX12_nextToken 62 = .ok (.putfield 147, 3) := by decide +kernel
theorem dX12_nextToken_65 : decode cX12_nextToken 65 = .ok (.aload_n 0, 1) := by decide +kernel
theorem dX12_nextToken_66 : decode cX12_nextToken 66 = .ok (.iconst 0, 1) := by decide +kernel
theorem dX12_nextToken_67 : decode cX12_nextToken 67 = .ok (.putfield 151, 3) := by decide +kernel
theorem dX12_nextToken_70 : decode cX12_nextToken 70 = .ok (.aload_n 0, 1) := by decide +kernel
theorem dX12_nextToken_71 : decode cX12_nextToken 71 = .ok (.getfield 141, 3) := by decide +kernel
theorem dX12_nextToken_74 : decode cX12_nextToken 74 = .ok (.aload_n 0, 1) := by decide +kernel
theorem dX12_nextToken_75 : decode cX12_nextToken 75 = .ok (.getfield 138, 3) := by decide +kernel
theorem dX12_nextToken_78 : decode cX12_nextToken 78 = .ok (.if_icmp .ne 9, 3) := by decide +kernel
theorem dX12_nextToken_81 : decode cX12_nextToken 81 = .ok (.aload_n 0, 1) := by decide +kernel
theorem dX12_nextToken_82 : decode cX12_nextToken 82 = .ok (.iconst 0, 1) := by decide +kernel
theorem dX12_nextToken_83 : decode cX12_nextToken 83 = .ok (.putfield 154, 3) := by decide +kernel
theorem dX12_nextToken_86 : decode cX12_nextToken 86 = .ok (.return_, 1) := by decide +kernel
theorem dX12_nextToken_87 : decode cX12_nextToken 87 = .ok (.aload_n 0, 1) := by decide +kernel
theorem dX12_nextToken_88 : decode cX12_nextToken 88 = .ok (.getfield 7, 3) := by decide +kernel
theorem dX12_nextToken_91 : decode cX12_nextToken 91 = .ok (.aload_n 0, 1) := by decide +kernel
theorem dX12_nextToken_92 : decode cX12_nextToken 92 = .ok (.getfield 141, 3) := by decide +kernel
theorem dX12_nextToken_95 : decode cX12_nextToken 95 = .ok (.iaload, 1) := by decide +kernel
theorem dX12_nextToken_96 : decode cX12_nextToken 96 = .ok (.istore_n 1, 1) := by decide +kernel
theorem dX12_nextToken_97 : decode cX12_nextToken 97 = .ok (.iload_n 1, 1) := by decide +kernel
theorem dX12_nextToken_98 : decode cX12_nextToken 98 = .ok (.bipush 97, 2) := by decide +kernel
theorem dX12_nextToken_100 : decode cX12_nextToken 100 = .ok (.if_icmp .lt 112, 3) := by decide +kernel
theorem dX12_nextToken_103 : decode cX12_nextToken 103 = .ok (.iload_n 1, 1) := by decide +kernel
theorem dX12_nextToken_104 : decode cX12_nextToken 104 = .ok (.bipush 122, 2) := by decide +kernel
theorem dX12_nextToken_106 : decode cX12_nextToken 106 = .ok (.if_icmp .gt 106, 3) := by decide +kernel
theorem dX12_nextToken_109 : decode cX12_nextToken 109 = .ok (.aload_n 0, 1) := by decide +kernel
theorem dX12_nextToken_110 : decode cX12_nextToken 110 = .ok (.aload_n 0, 1) := by decide +kernel
theorem dX12_nextToken_111 : decode cX12_nextToken 111 = .ok (.getfield 141, 3) := by decide +kernel
theorem dX12_nextToken_114 : decode cX12_nextToken 114 = .ok (.invokevirtual 157, 3) := by decide +kernel
theorem dX12_nextToken_117 : decode cX12_nextToken 117 = .ok (.bipush 97, 2) := by decide +kernel
theorem dX12_nextToken_119 : decode cX12_nextToken 119 = .ok (.if_icmp .lt 69, 3) := by decide +kernel
theorem dX12_nextToken_122 : decode cX12_nextToken 122 = .ok (.aload_n 0, 1) := by decide +kernel
theorem dX12_nextToken_123 : decode cX12_nextToken 123 = .ok (.aload_n 0, 1) := by decide +kernel
theorem dX12_nextToken_124 : decode cX12_nextToken 124 = .ok (.getfield 141, 3) := by decide +kernel
theorem dX12_nextToken_127 : decode cX12_nextToken 127 = .ok (.invokevirtual 157, 3) := by decide +kernel
theorem dX12_nextToken_130 : decode cX12_nextToken 130 = .ok (.bipush 122, 2) := by decide +kernel
theorem dX12_nextToken_132 : decode cX12_nextToken 132 = .ok (.if_icmp .gt 56, 3) := by decide +kernel
theorem dX12_nextToken_135 : decode cX12_nextToken 135 = .ok (.aload_n 0, 1) := by decide +kernel
theorem dX12_nextToken_136 : decode cX12_nextToken 136 = .ok (.getfield 141, 3) := by decide +kernel
theorem dX12_nextToken_139 : decode cX12_nextToken 139 = .ok (.aload_n 0, 1) := by decide +kernel
theorem dX12_nextToken_140 : decode cX12_nextToken 140 = .ok (.getfield 144, 3) := by decide +kernel
theorem dX12_nextToken_143 : decode cX12_nextToken 143 = .ok (.isub, 1) := by decide +kernel
theorem dX12_nextToken_144 : decode cX12_nextToken 144 = .ok (.bipush 8, 2) := by decide +kernel
theorem dX12_nextToken_146 : decode cX12_nextToken 146 = .ok (.if_icmp .ge 29, 3) := by decide +kernel
theorem dX12_nextToken_149 : decode cX12_nextToken 149 = .ok (.aload_n 0, 1) := by decide +kernel
theorem dX12_nextToken_150 : decode cX12_nextToken 150 = .ok (.aload_n 0, 1) := by decide +kernel
theorem dX12_nextToken_151 : decode cX12_nextToken 151 = .ok (.getfield 147, 3) := by decide +kernel
theorem dX12_nextToken_154 : decode cX12_nextToken 154 = .ok (.ldc2_w 161, 3) := by decide +kernel
theorem dX12_nextToken_157 : decode cX12_nextToken 157 = .ok (.lmul, 1) := by decide +kernel
theorem dX12_nextToken_158 : decode cX12_nextToken 158 = .ok (.aload_n 0, 1) := by decide +kernel
theorem dX12_nextToken_159 : decode cX12_nextToken 159 = .ok (.aload_n 0, 1) := by decide +kernel
theorem dX12_nextToken_160 : decode cX12_nextToken 160 = .ok (.getfield 141, 3) := by decide +kernel
theorem dX12_nextToken_163 : decode cX12_nextToken 163 = .ok (.invokevirtual 157, 3) := by decide +kernel
theorem dX12_nextToken_166 : decode cX12_nextToken 166 = .ok (.i2l, 1) := by decide +kernel
theorem dX12_nextToken_167 : decode cX12_nextToken 167 = .ok (.ladd, 1) := by decide +kernel
theorem dX12_nextToken_168 : decode cX12_nextToken 168 = .ok (.ldc2_w 163, 3) := by decide +kernel
theorem dX12_nextToken_171 : decode cX12_nextToken 171 = .ok (.lsub, 1) := by decide +kernel
theorem dX12_nextToken_172 : decode cX12_nextToken 172 = .ok (.putfield 147, 3) := by decide +kernel
theorem dX12_nextToken_175 : decode cX12_nextToken 175 = .ok (.aload_n 0, 1) := by decide +kernel
theorem dX12_nextToken_176 : decode cX12_nextToken 176 = .ok (.dup, 1) := by decide +kernel
theorem dX12_nextToken_177 : decode cX12_nextToken 177 = .ok (.getfield 141, 3) := by decide +kernel
theorem dX12_nextToken_180 : decode cX12_nextToken 180 = .ok (.iconst 1, 1) := by decide +kernel
theorem dX12_nextToken_181 : decode cX12_nextToken 181 = .ok (.iadd, 1) := by decide +kernel
theorem dX12_nextToken_182 : decode cX12_nextToken 182 = .ok (.putfield 141, 3) := by decide +kernel
theorem dX12_nextToken_185 : decode cX12_nextToken 185 = .ok (.goto (-76), 3) := by decide +kernel
theorem dX12_nextToken_188 : decode cX12_nextToken 188 = .ok (.aload_n 0, 1) := by decide +kernel
theorem dX12_nextToken_189 : decode cX12_nextToken 189 = .ok (.aload_n 0, 1) := by decide +kernel
theorem dX12_nextToken_190 : decode cX12_nextToken 190 = .ok (.getfield 141, 3) := by decide +kernel
theorem dX12_nextToken_193 : decode cX12_nextToken 193 = .ok (.aload_n 0, 1) := by decide +kernel
theorem dX12_nextToken_194 : decode cX12_nextToken 194 = .ok (.getfield 144, 3) := by decide +kernel
theorem dX12_nextToken_197 : decode cX12_nextToken 197 = .ok (.isub, 1) := by decide +kernel
theorem dX12_nextToken_198 : decode cX12_nextToken 198 = .ok (.bipush 8, 2) := by decide +kernel
theorem dX12_nextToken_200 : decode cX12_nextToken 200 = .ok (.if_icmp .le 7, 3) := by decide +kernel
theorem dX12_nextToken_203 : decode cX12_nextToken 203 = .ok (.iconst 4, 1) := by decide +kernel
theorem dX12_nextToken_204 : decode cX12_nextToken 204 = .ok (.goto 4, 3) := by decide +kernel
theorem dX12_nextToken_207 : decode cX12_nextToken 207 = .ok (.iconst 1, 1) := by decide +kernel
theorem dX12_nextToken_208 : decode cX12_nextToken 208 = .ok (.putfield 154, 3) := by decide +kernel
theorem dX12_nextToken_211 : decode cX12_nextToken 211 = .ok (.return_, 1) := by decide +kernel
theorem dX12_nextToken_212 : decode cX12_nextToken 212 = .ok (.iload_n 1, 1) := by decide +kernel
theorem dX12_nextToken_213 : decode cX12_nextToken 213 = .ok (.bipush 48, 2) := by decide +kernel
theorem dX12_nextToken_215 : decode cX12_nextToken 215 = .ok (.if_icmp .lt 107, 3) := by decide +kernel
theorem dX12_nextToken_218 : decode cX12_nextToken 218 = .ok (.iload_n 1, 1) := by decide +kernel
theorem dX12_nextToken_219 : decode cX12_nextToken 219 = .ok (.bipush 57, 2) := by decide +kernel
theorem dX12_nextToken_221 : decode cX12_nextToken 221 = .ok (.if_icmp .gt 101, 3) := by decide +kernel
theorem dX12_nextToken_224 : decode cX12_nextToken 224 = .ok (.aload_n 0, 1) := by decide +kernel
theorem dX12_nextToken_225 : decode cX12_nextToken 225 = .ok (.aload_n 0, 1) := by decide +kernel
theorem dX12_nextToken_226 : decode cX12_nextToken 226 = .ok (.getfield 141, 3) := by decide +kernel
theorem dX12_nextToken_229 : decode cX12_nextToken 229 = .ok (.invokevirtual 157, 3) := by decide +kernel
theorem dX12_nextToken_232 : decode cX12_nextToken 232 = .ok (.bipush 48, 2) := by decide +kernel
theorem dX12_nextToken_234 : decode cX12_nextToken 234 = .ok (.if_icmp .lt 65, 3) := by decide +kernel
theorem dX12_nextToken_237 : decode cX12_nextToken 237 = .ok (.aload_n 0, 1) := by decide +kernel
theorem dX12_nextToken_238 : decode cX12_nextToken 238 = .ok (.aload_n 0, 1) := by decide +kernel
theorem dX12_nextToken_239 : decode cX12_nextToken 239 = .ok (.getfield 141, 3) := by decide +kernel
theorem dX12_nextToken_242 : decode cX12_nextToken 242 = .ok (.invokevirtual 157, 3) := by decide +kernel
theorem dX12_nextToken_245 : decode cX12_nextToken 245 = .ok (.bipush 57, 2) := by decide +kernel
theorem dX12_nextToken_247 : decode cX12_nextToken 247 = .ok (.if_icmp .gt 52, 3) := by decide +kernel
theorem dX12_nextToken_250 : decode cX12_nextToken 250 = .ok (.aload_n 0, 1) := by decide +kernel
theorem dX12_nextToken_251 : decode cX12_nextToken 251 = .ok (.getfield 141, 3) := by decide +kernel
theorem dX12_nextToken_254 : decode cX12_nextToken 254 = .ok (.aload_n 0, 1) := by decide +kernel
theorem dX12_nextToken_255 : decode cX12_nextToken 255 = .ok (.getfield 144, 3) := by decide +kernel
theorem dX12_nextToken_258 : decode cX12_nextToken 258 = .ok (.isub, 1) := by decide +kernel
theorem dX12_nextToken_259 : decode cX12_nextToken 259 = .ok (.iconst 4, 1) := by decide +kernel
theorem dX12_nextToken_260 : decode cX12_nextToken 260 = .ok (.if_icmp .ge 26, 3) := by decide +kernel
theorem dX12_nextToken_263 : decode cX12_nextToken 263 = .ok (.aload_n 0, 1) := by decide +kernel
theorem dX12_nextToken_264 : decode cX12_nextToken 264 = .ok (.aload_n 0, 1) := by decide +kernel
theorem dX12_nextToken_265 : decode cX12_nextToken 265 = .ok (.getfield 151, 3) := by decide +kernel
theorem dX12_nextToken_268 : decode cX12_nextToken 268 = .ok (.bipush 10, 2) := by decide +kernel
theorem dX12_nextToken_270 : decode cX12_nextToken 270 = .ok (.imul, 1) := by decide +kernel
theorem dX12_nextToken_271 : decode cX12_nextToken 271 = .ok (.aload_n 0, 1) := by decide +kernel
theorem dX12_nextToken_272 : decode cX12_nextToken 272 = .ok (.aload_n 0, 1) := by decide +kernel
theorem dX12_nextToken_273 : decode cX12_nextToken 273 = .ok (.getfield 141, 3) := by decide +kernel
theorem dX12_nextToken_276 : decode cX12_nextToken 276 = .ok (.invokevirtual 157, 3) := by decide +kernel
theorem dX12_nextToken_279 : decode cX12_nextToken 279 = .ok (.iadd, 1) := by decide +kernel
theorem dX12_nextToken_280 : decode cX12_nextToken 280 = .ok (.bipush 48, 2) := by decide +kernel
theorem dX12_nextToken_282 : decode cX12_nextToken 282 = .ok (.isub, 1) := by decide +kernel
theorem dX12_nextToken_283 : decode cX12_nextToken 283 = .ok (.putfield 151, 3) := by decide +kernel
theorem dX12_nextToken_286 : decode cX12_nextToken 286 = .ok (.aload_n 0, 1) := by decide +kernel
theorem dX12_nextToken_287 : decode cX12_nextToken 287 = .ok (.dup, 1) := by decide +kernel
theorem dX12_nextToken_288 : decode cX12_nextToken 288 = .ok (.getfield 141, 3) := by decide +kernel
theorem dX12_nextToken_291 : decode cX12_nextToken 291 = .ok (.iconst 1, 1) := by decide +kernel
theorem dX12_nextToken_292 : decode cX12_nextToken 292 = .ok (.iadd, 1) := by decide +kernel
theorem dX12_nextToken_293 : decode cX12_nextToken 293 = .ok (.putfield 141, 3) := by decide +kernel
theorem dX12_nextToken_296 : decode cX12_nextToken 296 = .ok (.goto (-72), 3) := by decide +kernel
theorem dX12_nextToken_299 : decode cX12_nextToken 299 = .ok (.aload_n 0, 1) := by decide +kernel
theorem dX12_nextToken_300 : decode cX12_nextToken 300 = .ok (.aload_n 0, 1) := by decide +kernel
theorem dX12_nextToken_301 : decode cX12_nextToken 301 = .ok (.getfield 141, 3) := by decide +kernel
theorem dX12_nextToken_304 : decode cX12_nextToken 304 = .ok (.aload_n 0, 1) := by decide +kernel
theorem dX12_nextToken_305 : decode cX12_nextToken 305 = .ok (.getfield 144, 3) := by decide +kernel
theorem dX12_nextToken_308 : decode cX12_nextToken 308 = .ok (.isub, 1) := by decide +kernel
theorem dX12_nextToken_309 : decode cX12_nextToken 309 = .ok (.iconst 4, 1) := by decide +kernel
theorem dX12_nextToken_310 : decode cX12_nextToken 310 = .ok (.if_icmp .le 7, 3) := by decide +kernel
theorem dX12_nextToken_313 : decode cX12_nextToken 313 = .ok (.iconst 4, 1) := by decide +kernel
theorem dX12_nextToken_314 : decode cX12_nextToken 314 = .ok (.goto 4, 3) := by decide +kernel
theorem dX12_nextToken_317 : decode cX12_nextToken 317 = .ok (.iconst 2, 1) := by decide +kernel
theorem dX12_nextToken_318 : decode cX12_nextToken 318 = .ok (.putfield 154, 3) := by decide +kernel
theorem dX12_nextToken_321 : decode cX12_nextToken 321 = .ok (.return_, 1) := by decide +kernel
theorem dX12_nextToken_322 : decode cX12_nextToken 322 = .ok (.aload_n 0, 1) := by decide +kernel
theorem dX12_nextToken_323 : decode cX12_nextToken 323 = .ok (.dup, 1) := by decide +kernel
theorem dX12_nextToken_324 : decode cX12_nextToken 324 = .ok (.getfield 141, 3) := by decide +kernel
theorem dX12_nextToken_327 : decode cX12_nextToken 327 = .ok (.iconst 1, 1) := by decide +kernel
theorem dX12_nextToken_328 : decode cX12_nextToken 328 = .ok (.iadd, 1) := by decide +kernel
theorem dX12_nextToken_329 : decode cX12_nextToken 329 = .ok (.putfield 141, 3) := by decide +kernel
theorem dX12_nextToken_332 : decode cX12_nextToken 332 = .ok (.aload_n 0, 1) := by decide +kernel
theorem dX12_nextToken_333 : decode cX12_nextToken 333 = .ok (.iload_n 1, 1) := by decide +kernel
theorem dX12_nextToken_334 : decode cX12_nextToken 334 = .ok (.bipush 40, 2) := by decide +kernel
theorem dX12_nextToken_336 : decode cX12_nextToken 336 = .ok (.if_icmp .lt 9, 3) := by decide +kernel
theorem dX12_nextToken_339 : decode cX12_nextToken 339 = .ok (.iload_n 1, 1) := by decide +kernel
theorem dX12_nextToken_340 : decode cX12_nextToken 340 = .ok (.bipush 43, 2) := by decide +kernel
theorem dX12_nextToken_342 : decode cX12_nextToken 342 = .ok (.if_icmp .le 21, 3) := by decide +kernel
theorem dX12_nextToken_345 : decode cX12_nextToken 345 = .ok (.iload_n 1, 1) := by decide +kernel
theorem dX12_nextToken_346 : decode cX12_nextToken 346 = .ok (.bipush 45, 2) := by decide +kernel
theorem dX12_nextToken_348 : decode cX12_nextToken 348 = .ok (.if_icmp .eq 15, 3) := by decide +kernel
theorem dX12_nextToken_351 : decode cX12_nextToken 351 = .ok (.iload_n 1, 1) := by decide +kernel
theorem dX12_nextToken_352 : decode cX12_nextToken 352 = .ok (.bipush 59, 2) := by decide +kernel
theorem dX12_nextToken_354 : decode cX12_nextToken 354 = .ok (.if_icmp .lt 13, 3) := by decide +kernel
theorem dX12_nextToken_357 : decode cX12_nextToken 357 = .ok (.iload_n 1, 1) := by decide +kernel
theorem dX12_nextToken_358 : decode cX12_nextToken 358 = .ok (.bipush 61, 2) := by decide +kernel
theorem dX12_nextToken_360 : decode cX12_nextToken 360 = .ok (.if_icmp .gt 7, 3) := by decide +kernel
theorem dX12_nextToken_363 : decode cX12_nextToken 363 = .ok (.iconst 3, 1) := by decide +kernel
theorem dX12_nextToken_364 : decode cX12_nextToken 364 = .ok (.goto 4, 3) := by decide +kernel
theorem dX12_nextToken_367 : decode cX12_nextToken 367 = .ok (.iconst 4, 1) := by decide +kernel
theorem dX12_nextToken_368 : decode cX12_nextToken 368 = .ok (.putfield 154, 3) := by decide +kernel
theorem dX12_nextToken_371 : decode cX12_nextToken 371 = .ok (.return_, 1) := by decide +kernel
set_option maxRecDepth 20000 in
theorem ggX12_begins_X12_nextToken : GoodIn wsX12_begins wsX12_nextToken := goodIn_r _ [8, 3, 2, 9, 10, 11, 12, 13, 14, 15, 16, 17, 18, 7, 19, 20, 21, 22, 23, 24, 25, 26, 27, 28, 29, 30, 31, 32, 33, 34, 35, 36, 37, 38, 39, 40, 41, 42, 43, 44, 45, 46, 47, 48, 49, 50, 51, 52, 53, 54, 55, 56, 57, 58, 59, 60, 61, 62, 63, 64, 65, 66, 67, 68, 69, 70, 71, 72, 73, 74, 75, 76] (by decide +kernel) (by decide +kernel)
set_option maxRecDepth 20000 in
theorem gX12_begins_X12_nextToken : GoodIn wsX12_begins (wsV RX12 200 RX12 yX12_nextToken wsX12_nextToken) := goodIn_app (goodIn_of _ (by decide +kernel)) ggX12_begins_X12_nextToken
theorem dX12_begins_0 : decode cX12_begins 0 = .ok (.aload_n 0, 1) := by decide +kernel
theorem dX12_begins_1 : decode cX12_begins 1 = .ok (.aload_n 0, 1) := by decide +kernel
theorem dX12_begins_2 : decode cX12_begins 2 = .ok (.getfield 135, 3) := by decide +kernel
theorem dX12_begins_5 : decode cX12_begins 5 = .ok (.putfield 138, 3) := by decide +kernel
theorem dX12_begins_8 : decode cX12_begins 8 = .ok (.aload_n 0, 1) := by decide +kernel
theorem dX12_begins_9 : decode cX12_begins 9 = .ok (.iconst 0, 1) := by decide +kernel
theorem dX12_begins_10 : decode cX12_begins 10 = .ok (.putfield 135, 3) := by decide +kernel
theorem dX12_begins_13 : decode cX12_begins 13 = .ok (.aload_n 0, 1) := by decide +kernel
theorem dX12_begins_14 : decode cX12_begins 14 = .ok (.iconst 0, 1) := by decide +kernel
theorem dX12_begins_15 : decode cX12_begins 15 = .ok (.putfield 141, 3) := by decide +kernel
theorem dX12_begins_18 : decode cX12_begins 18 = .ok (.aload_n 0, 1) := by decide +kernel
theorem dX12_begins_19 : decode cX12_begins 19 = .ok (.invokevirtual 200, 3) := by decide +kernel
theorem dX12_begins_22 : decode cX12_begins 22 = .ok (.return_, 1) := by decide +kernel
set_option maxRecDepth 20000 in
theorem ggX12_readsAll_X12_begins : GoodIn wsX12_readsAll wsX12_begins := goodIn_r _ [17, 18, 19, 20, 21, 22, 23, 16, 24, 25, 26, 27, 28, 6, 29, 30, 31, 32, 33, 34, 151, 152, 153, 154, 155, 156, 157, 158, 159, 160, 161, 162, 163, 164, 165, 166, 167, 168, 169, 170, 171, 172, 173, 174, 175, 176, 177, 178, 179, 180, 181, 182, 183, 184, 185, 186, 187, 188, 189, 190, 191, 192, 193, 194, 195, 196, 197, 198, 199, 200, 201, 202, 203, 204, 205, 206, 207] (by decide +kernel) (by decide +kernel)
set_option maxRecDepth 20000 in
theorem gX12_readsAll_X12_begins : GoodIn wsX12_readsAll (wsV RX12 298 RX12 yX12_begins wsX12_begins) := goodIn_app (goodIn_of _ (by decide +kernel)) ggX12_readsAll_X12_begins
set_option maxRecDepth 20000 in
theorem ggX12_readsAll_X12_isWord : GoodIn wsX12_readsAll wsX12_isWord := goodIn_r _ [38, 6, 27, 151, 152, 153, 154, 155, 156, 157, 158, 159, 160, 161, 162, 163, 164, 165, 166, 167, 168, 169, 170, 171, 172, 173, 174, 175, 176, 177, 178, 179, 180, 181, 182, 183, 184, 185, 186, 187, 188, 189, 190, 191, 192, 193, 194, 195, 196, 197, 198, 199, 200, 201, 202, 203, 204, 205, 206, 207] (by decide +kernel) (by decide +kernel)
set_option maxRecDepth 20000 in
theorem gX12_readsAll_X12_isWord : GoodIn wsX12_readsAll (wsV RX12 185 RX12 yX12_isWord wsX12_isWord) := goodIn_app (goodIn_of _ (by decide +kernel)) ggX12_readsAll_X12_isWord
set_option maxRecDepth 20000 in
theorem ggX12_readsAll_X12_readsTown : GoodIn wsX12_readsAll wsX12_readsTown := goodIn_r _ [42, 1, 43, 44, 45, 46, 47, 48, 49, 50, 51, 16, 52, 26, 53, 21, 22, 23, 24, 20, 19, 25, 27, 28, 6, 29, 30, 31, 32, 33, 34, 54, 55, 56, 57, 58, 59, 60, 61, 7, 8, 9, 62, 63, 64, 10, 11, 12, 65, 66, 67, 68, 69, 70, 71, 72, 73, 74, 75, 76, 77, 78, 79, 80, 81, 82, 83, 84, 85, 86, 87, 88, 89, 90, 91, 92, 35, 36, 37, 38, 93, 94, 95, 96, 97, 98, 99, 100, 101, 102, 103, 104, 105, 106, 107, 151, 152, 153, 154, 155, 156, 157, 158, 159, 160, 161, 162, 163, 164, 165, 166, 167, 168, 169, 170, 171, 172, 173, 174, 175, 176, 177, 178, 179, 180, 181, 182, 183, 184, 185, 186, 187, 188, 189, 190, 191, 192, 193, 194, 195, 196, 197, 198, 199, 200, 201, 202, 203, 204, 205, 206, 207] (by decide +kernel) (by decide +kernel)
set_option maxRecDepth 20000 in
theorem gX12_readsAll_X12_readsTown : GoodIn wsX12_readsAll (wsV RX12 301 RX12 yX12_readsTown wsX12_readsTown) := goodIn_app (goodIn_of _ (by decide +kernel)) ggX12_readsAll_X12_readsTown
set_option maxRecDepth 20000 in
theorem ggX12_readsAll_X12_readsRoad : GoodIn wsX12_readsAll wsX12_readsRoad := goodIn_r _ [111, 45, 46, 21, 22, 23, 16, 24, 20, 19, 25, 26, 27, 28, 6, 29, 30, 31, 32, 33, 34, 112, 113, 114, 115, 58, 59, 60, 61, 7, 43, 8, 9, 62, 63, 64, 10, 11, 12, 65, 66, 67, 68, 69, 70, 71, 72, 73, 74, 75, 49, 50, 51, 52, 53, 76, 77, 78, 79, 1, 47, 100, 101, 102, 103, 104, 105, 106, 107, 151, 152, 153, 154, 155, 156, 157, 158, 159, 160, 161, 162, 163, 164, 165, 166, 167, 168, 169, 170, 171, 172, 173, 174, 175, 176, 177, 178, 179, 180, 181, 182, 183, 184, 185, 186, 187, 188, 189, 190, 191, 192, 193, 194, 195, 196, 197, 198, 199, 200, 201, 202, 203, 204, 205, 206, 207] (by decide +kernel) (by decide +kernel)
set_option maxRecDepth 20000 in
theorem gX12_readsAll_X12_readsRoad : GoodIn wsX12_readsAll (wsV RX12 304 RX12 yX12_readsRoad wsX12_readsRoad) := goodIn_app (goodIn_of _ (by decide +kernel)) ggX12_readsAll_X12_readsRoad
set_option maxRecDepth 20000 in
theorem ggX12_readsAll_X12_readsPerson : GoodIn wsX12_readsAll wsX12_readsPerson := goodIn_r _ [119, 1, 48, 120, 69, 70, 71, 72, 62, 121, 45, 63, 122, 64, 123, 84, 49, 50, 51, 16, 52, 26, 53, 21, 22, 23, 24, 20, 19, 25, 27, 28, 6, 29, 30, 31, 32, 33, 34, 54, 55, 56, 57, 58, 59, 60, 61, 7, 43, 8, 9, 10, 11, 12, 65, 66, 67, 68, 73, 74, 75, 76, 77, 78, 79, 47, 80, 81, 82, 83, 35, 36, 37, 38, 89, 90, 91, 92, 112, 113, 114, 115, 85, 86, 87, 88, 93, 94, 95, 96, 97, 98, 99, 100, 101, 102, 103, 104, 105, 106, 107, 151, 152, 153, 154, 155, 156, 157, 158, 159, 160, 161, 162, 163, 164, 165, 166, 167, 168, 169, 170, 171, 172, 173, 174, 175, 176, 177, 178, 179, 180, 181, 182, 183, 184, 185, 186, 187, 188, 189, 190, 191, 192, 193, 194, 195, 196, 197, 198, 199, 200, 201, 202, 203, 204, 205, 206, 207] (by decide +kernel) (by decide +kernel)
set_option maxRecDepth 20000 in
theorem gX12_readsAll_X12_readsPerson : GoodIn wsX12_readsAll (wsV RX12 307 RX12 yX12_readsPerson wsX12_readsPerson) := goodIn_app (goodIn_of _ (by decide +kernel)) ggX12_readsAll_X12_readsPerson
set_option maxRecDepth 20000 in
theorem ggX12_readsAll_X12_readsOne : GoodIn wsX12_readsAll wsX12_readsOne := goodIn_r _ [127, 4, 1, 45, 49, 50, 51, 16, 52, 26, 53, 21, 22, 23, 24, 20, 19, 25, 27, 28, 6, 29, 30, 31, 32, 33, 34, 93, 94, 95, 96, 97, 98, 99, 100, 101, 102, 103, 104, 105, 106, 107, 151, 152, 153, 154, 155, 156, 157, 158, 159, 160, 161, 162, 163, 164, 165, 166, 167, 168, 169, 170, 171, 172, 173, 174, 175, 176, 177, 178, 179, 180, 181, 182, 183, 184, 185, 186, 187, 188, 189, 190, 191, 192, 193, 194, 195, 196, 197, 198, 199, 200, 201, 202, 203, 204, 205, 206, 207] (by decide +kernel) (by decide +kernel)
set_option maxRecDepth 20000 in
theorem gX12_readsAll_X12_readsOne : GoodIn wsX12_readsAll (wsV RX12 310 RX12 yX12_readsOne wsX12_readsOne) := goodIn_app (goodIn_of _ (by decide +kernel)) ggX12_readsAll_X12_readsOne
set_option maxRecDepth 20000 in
theorem ggX12_readsAll_X12_readsReads : GoodIn wsX12_readsAll wsX12_readsReads := goodIn_r _ [131, 3, 2, 5, 49, 50, 51, 16, 52, 26, 53, 21, 22, 23, 24, 20, 19, 25, 27, 28, 6, 29, 30, 31, 32, 33, 34, 132, 133, 134, 135, 136, 73, 137, 74, 75, 138, 139, 140, 141, 142, 143, 144, 145, 35, 36, 37, 38, 104, 105, 106, 107, 146, 147, 148, 149, 150, 151, 152, 153, 154, 155, 156, 157, 158, 159, 160, 161, 162, 163, 164, 165, 166, 167, 168, 169, 170, 171, 172, 173, 174, 175, 176, 177, 178, 179, 180, 181, 182, 183, 184, 185, 186, 187, 188, 189, 190, 191, 192, 193, 194, 195, 196, 197, 198, 199, 200, 201, 202, 203, 204, 205, 206, 207] (by decide +kernel) (by decide +kernel)
set_option maxRecDepth 20000 in
theorem gX12_readsAll_X12_readsReads : GoodIn wsX12_readsAll (wsV RX12 313 RX12 yX12_readsReads wsX12_readsReads) := goodIn_app (goodIn_of _ (by decide +kernel)) ggX12_readsAll_X12_readsReads
set_option maxRecDepth 20000 in
theorem ggX12_readsAll_X12_fails : GoodIn wsX12_readsAll wsX12_fails := goodIn_r _ [52, 26, 53, 151, 152, 153, 154, 155, 156, 157, 158, 159, 160, 161, 162, 163, 164, 165, 166, 167, 168, 169, 170, 171, 172, 173, 174, 175, 176, 177, 178, 179, 180, 181, 182, 183, 184, 185, 186, 187, 188, 189, 190, 191, 192, 193, 194, 195, 196, 197, 198, 199, 200, 201, 202, 203, 204, 205, 206, 207] (by decide +kernel) (by decide +kernel)
set_option maxRecDepth 20000 in
theorem gX12_readsAll_X12_fails : GoodIn wsX12_readsAll (wsV RX12 193 RX12 yX12_fails wsX12_fails) := goodIn_app (goodIn_of _ (by decide +kernel)) ggX12_readsAll_X12_fails
theorem dX12_readsAll_0 : decode cX12_readsAll 0 = .ok (.aload_n 0, 1) := by decide +kernel
theorem dX12_readsAll_1 : decode cX12_readsAll 1 = .ok (.getfield 13, 3) := by decide +kernel
theorem dX12_readsAll_4 : decode cX12_readsAll 4 = .ok (.iconst 4, 1) := by decide +kernel
theorem dX12_readsAll_5 : decode cX12_readsAll 5 = .ok (.iconst 0, 1) := by decide +kernel
theorem dX12_readsAll_6 : decode cX12_readsAll 6 = .ok (.iastore, 1) := by decide +kernel
theorem dX12_readsAll_7 : decode cX12_readsAll 7 = .ok (.aload_n 0, 1) := by decide +kernel
theorem dX12_readsAll_8 : decode cX12_readsAll 8 = .ok (.getfield 13, 3) := by decide +kernel
theorem dX12_readsAll_11 : decode cX12_readsAll 11 = .ok (.iconst 5, 1) := by decide +kernel
theorem dX12_readsAll_12 : decode cX12_readsAll 12 = .ok (.iconst 0, 1) := by decide +kernel
theorem dX12_readsAll_13 : decode cX12_readsAll 13 = .ok (.iastore, 1) := by decide +kernel
theorem dX12_readsAll_14 : decode cX12_readsAll 14 = .ok (.aload_n 0, 1) := by decide +kernel
theorem dX12_readsAll_15 : decode cX12_readsAll 15 = .ok (.getfield 13, 3) := by decide +kernel
theorem dX12_readsAll_18 : decode cX12_readsAll 18 = .ok (.bipush 6, 2) := by decide +kernel
theorem dX12_readsAll_20 : decode cX12_readsAll 20 = .ok (.iconst 1, 1) := by decide +kernel
theorem dX12_readsAll_21 : decode cX12_readsAll 21 = .ok (.iastore, 1) := by decide +kernel
theorem dX12_readsAll_22 : decode cX12_readsAll 22 = .ok (.aload_n 0, 1) := by decide +kernel
theorem dX12_readsAll_23 : decode cX12_readsAll 23 = .ok (.getfield 13, 3) := by decide +kernel
theorem dX12_readsAll_26 : decode cX12_readsAll 26 = .ok (.bipush 7, 2) := by decide +kernel
theorem dX12_readsAll_28 : decode cX12_readsAll 28 = .ok (.iconst 2, 1) := by decide +kernel
theorem dX12_readsAll_29 : decode cX12_readsAll 29 = .ok (.iastore, 1) := by decide +kernel
theorem dX12_readsAll_30 : decode cX12_readsAll 30 = .ok (.aload_n 0, 1) := by decide +kernel
theorem dX12_readsAll_31 : decode cX12_readsAll 31 = .ok (.getfield 41, 3) := by decide +kernel
theorem dX12_readsAll_34 : decode cX12_readsAll 34 = .ok (.iconst 1, 1) := by decide +kernel
theorem dX12_readsAll_35 : decode cX12_readsAll 35 = .ok (.sipush 1000, 3) := by decide +kernel
theorem dX12_readsAll_38 : decode cX12_readsAll 38 = .ok (.iastore, 1) := by decide +kernel
theorem dX12_readsAll_39 : decode cX12_readsAll 39 = .ok (.aload_n 0, 1) := by decide +kernel
theorem dX12_readsAll_40 : decode cX12_readsAll 40 = .ok (.getfield 44, 3) := by decide +kernel
theorem dX12_readsAll_43 : decode cX12_readsAll 43 = .ok (.iconst 1, 1) := by decide +kernel
theorem dX12_readsAll_44 : decode cX12_readsAll 44 = .ok (.sipush 1000, 3) := by decide +kernel
theorem dX12_readsAll_47 : decode cX12_readsAll 47 = .ok (.iastore, 1) := by decide +kernel
theorem dX12_readsAll_48 : decode cX12_readsAll 48 = .ok (.aload_n 0, 1) := by decide +kernel
theorem dX12_readsAll_49 : decode cX12_readsAll 49 = .ok (.iconst 0, 1) := by decide +kernel
theorem dX12_readsAll_50 : decode cX12_readsAll 50 = .ok (.putfield 292, 3) := by decide +kernel
theorem dX12_readsAll_53 : decode cX12_readsAll 53 = .ok (.aload_n 0, 1) := by decide +kernel
theorem dX12_readsAll_54 : decode cX12_readsAll 54 = .ok (.sipush 1000, 3) := by decide +kernel
theorem dX12_readsAll_57 : decode cX12_readsAll 57 = .ok (.putfield 168, 3) := by decide +kernel
theorem dX12_readsAll_60 : decode cX12_readsAll 60 = .ok (.aload_n 0, 1) := by decide +kernel
theorem dX12_readsAll_61 : decode cX12_readsAll 61 = .ok (.invokevirtual 298, 3) := by decide +kernel
theorem dX12_readsAll_64 : decode cX12_readsAll 64 = .ok (.aload_n 0, 1) := by decide +kernel
theorem dX12_readsAll_65 : decode cX12_readsAll 65 = .ok (.getfield 154, 3) := by decide +kernel
theorem dX12_readsAll_68 : decode cX12_readsAll 68 = .ok (.ifCond .eq 127, 3) := by decide +kernel
theorem dX12_readsAll_71 : decode cX12_readsAll 71 = .ok (.aload_n 0, 1) := by decide +kernel
theorem dX12_readsAll_72 : decode cX12_readsAll 72 = .ok (.ldc2_w 216, 3) := by decide +kernel
theorem dX12_readsAll_75 : decode cX12_readsAll 75 = .ok (.invokevirtual 185, 3) := by decide +kernel
theorem dX12_readsAll_78 : decode cX12_readsAll 78 = .ok (.ifCond .eq 10, 3) := by decide +kernel
theorem dX12_readsAll_81 : decode cX12_readsAll 81 = .ok (.aload_n 0, 1) := by decide +kernel
theorem dX12_readsAll_82 : decode cX12_readsAll 82 = .ok (.invokevirtual 301, 3) := by decide +kernel
theorem dX12_readsAll_85 : decode cX12_readsAll 85 = .ok (.goto 100, 3) := by decide +kernel
theorem dX12_readsAll_88 : decode cX12_readsAll 88 = .ok (.aload_n 0, 1) := by decide +kernel
theorem dX12_readsAll_89 : decode cX12_readsAll 89 = .ok (.ldc2_w 220, 3) := by decide +kernel
theorem dX12_readsAll_92 : decode cX12_readsAll 92 = .ok (.invokevirtual 185, 3) := by decide +kernel
theorem dX12_readsAll_95 : decode cX12_readsAll 95 = .ok (.ifCond .eq 10, 3) := by decide +kernel
theorem dX12_readsAll_98 : decode cX12_readsAll 98 = .ok (.aload_n 0, 1) := by decide +kernel
theorem dX12_readsAll_99 : decode cX12_readsAll 99 = .ok (.invokevirtual 304, 3) := by decide +kernel
theorem dX12_readsAll_102 : decode cX12_readsAll 102 = .ok (.goto 83, 3) := by decide +kernel
theorem dX12_readsAll_105 : decode cX12_readsAll 105 = .ok (.aload_n 0, 1) := by decide +kernel
theorem dX12_readsAll_106 : decode cX12_readsAll 106 = .ok (.ldc2_w 222, 3) := by decide +kernel
theorem dX12_readsAll_109 : decode cX12_readsAll 109 = .ok (.invokevirtual 185, 3) := by decide +kernel
theorem dX12_readsAll_112 : decode cX12_readsAll 112 = .ok (.ifCond .eq 10, 3) := by decide +kernel
theorem dX12_readsAll_115 : decode cX12_readsAll 115 = .ok (.aload_n 0, 1) := by decide +kernel
theorem dX12_readsAll_116 : decode cX12_readsAll 116 = .ok (.invokevirtual 307, 3) := by decide +kernel
theorem dX12_readsAll_119 : decode cX12_readsAll 119 = .ok (.goto 66, 3) := by decide +kernel
theorem dX12_readsAll_122 : decode cX12_readsAll 122 = .ok (.aload_n 0, 1) := by decide +kernel
theorem dX12_readsAll_123 : decode cX12_readsAll 123 = .ok (.ldc2_w 230, 3) := by decide +kernel
theorem dX12_readsAll_126 : decode cX12_readsAll 126 = .ok (.invokevirtual 185, 3) := by decide +kernel
theorem dX12_readsAll_129 : decode cX12_readsAll 129 = .ok (.ifCond .eq 13, 3) := by decide +kernel
theorem dX12_readsAll_132 : decode cX12_readsAll 132 = .ok (.aload_n 0, 1) := by decide +kernel
theorem dX12_readsAll_133 : decode cX12_readsAll 133 = .ok (.iconst 2, 1) := by decide +kernel
theorem dX12_readsAll_134 : decode cX12_readsAll 134 = .ok (.iconst 0, 1) := by decide +kernel
theorem dX12_readsAll_135 : decode cX12_readsAll 135 = .ok (.iconst 5, 1) := by decide +kernel
theorem dX12_readsAll_136 : decode cX12_readsAll 136 = .ok (.invokevirtual 310, 3) := by decide +kernel
theorem dX12_readsAll_139 : decode cX12_readsAll 139 = .ok (.goto 46, 3) := by decide +kernel
theorem dX12_readsAll_142 : decode cX12_readsAll 142 = .ok (.aload_n 0, 1) := by decide +kernel
theorem dX12_readsAll_143 : decode cX12_readsAll 143 = .ok (.ldc2_w 232, 3) := by decide +kernel
theorem dX12_readsAll_146 : decode cX12_readsAll 146 = .ok (.invokevirtual 185, 3) := by decide +kernel
theorem dX12_readsAll_149 : decode cX12_readsAll 149 = .ok (.ifCond .eq 14, 3) := by decide +kernel
theorem dX12_readsAll_152 : decode cX12_readsAll 152 = .ok (.aload_n 0, 1) := by decide +kernel
theorem dX12_readsAll_153 : decode cX12_readsAll 153 = .ok (.iconst 3, 1) := by decide +kernel
theorem dX12_readsAll_154 : decode cX12_readsAll 154 = .ok (.iconst 1, 1) := by decide +kernel
theorem dX12_readsAll_155 : decode cX12_readsAll 155 = .ok (.bipush 9, 2) := by decide +kernel
theorem dX12_readsAll_157 : decode cX12_readsAll 157 = .ok (.invokevirtual 310, 3) := by decide +kernel
theorem dX12_readsAll_160 : decode cX12_readsAll 160 = .ok (.goto 25, 3) := by decide +kernel
theorem dX12_readsAll_163 : decode cX12_readsAll 163 = .ok (.aload_n 0, 1) := by decide +kernel
theorem dX12_readsAll_164 : decode cX12_readsAll 164 = .ok (.ldc2_w 234, 3) := by decide +kernel
theorem dX12_readsAll_167 : decode cX12_readsAll 167 = .ok (.invokevirtual 185, 3) := by decide +kernel
theorem dX12_readsAll_170 : decode cX12_readsAll 170 = .ok (.ifCond .eq 10, 3) := by decide +kernel
theorem dX12_readsAll_173 : decode cX12_readsAll 173 = .ok (.aload_n 0, 1) := by decide +kernel
theorem dX12_readsAll_174 : decode cX12_readsAll 174 = .ok (.invokevirtual 313, 3) := by decide +kernel
theorem dX12_readsAll_177 : decode cX12_readsAll 177 = .ok (.goto 8, 3) := by decide +kernel
theorem dX12_readsAll_180 : decode cX12_readsAll 180 = .ok (.aload_n 0, 1) := by decide +kernel
theorem dX12_readsAll_181 : decode cX12_readsAll 181 = .ok (.iconst 1, 1) := by decide +kernel
theorem dX12_readsAll_182 : decode cX12_readsAll 182 = .ok (.invokevirtual 193, 3) := by decide +kernel
theorem dX12_readsAll_185 : decode cX12_readsAll 185 = .ok (.istore_n 1, 1) := by decide +kernel
theorem dX12_readsAll_186 : decode cX12_readsAll 186 = .ok (.iload_n 1, 1) := by decide +kernel
theorem dX12_readsAll_187 : decode cX12_readsAll 187 = .ok (.ifCond .ne 5, 3) := by decide +kernel
theorem dX12_readsAll_190 : decode cX12_readsAll 190 = .ok (.iconst 0, 1) := by decide +kernel
theorem dX12_readsAll_191 : decode cX12_readsAll 191 = .ok (.ireturn, 1) := by decide +kernel
theorem dX12_readsAll_192 : decode cX12_readsAll 192 = .ok (.goto (-128), 3) := by decide +kernel
theorem dX12_readsAll_195 : decode cX12_readsAll 195 = .ok (.iconst 1, 1) := by decide +kernel
theorem dX12_readsAll_196 : decode cX12_readsAll 196 = .ok (.ireturn, 1) := by decide +kernel
theorem dX12_shifts_0 : decode cX12_shifts 0 = .ok (.iconst 0, 1) := by decide +kernel
theorem dX12_shifts_1 : decode cX12_shifts 1 = .ok (.istore_n 2, 1) := by decide +kernel
theorem dX12_shifts_2 : decode cX12_shifts 2 = .ok (.iload_n 2, 1) := by decide +kernel
theorem dX12_shifts_3 : decode cX12_shifts 3 = .ok (.iload_n 1, 1) := by decide +kernel
theorem dX12_shifts_4 : decode cX12_shifts 4 = .ok (.if_icmp .ge 17, 3) := by decide +kernel
theorem dX12_shifts_7 : decode cX12_shifts 7 = .ok (.aload_n 0, 1) := by decide +kernel
theorem dX12_shifts_8 : decode cX12_shifts 8 = .ok (.iload_n 2, 1) := by decide +kernel
theorem dX12_shifts_9 : decode cX12_shifts 9 = .ok (.aload_n 0, 1) := by decide +kernel
theorem dX12_shifts_10 : decode cX12_shifts 10 = .ok (.iload_n 1, 1) := by decide +kernel
theorem dX12_shifts_11 : decode cX12_shifts 11 = .ok (.iload_n 2, 1) := by decide +kernel
theorem dX12_shifts_12 : decode cX12_shifts 12 = .ok (.iadd, 1) := by decide +kernel
theorem dX12_shifts_13 : decode cX12_shifts 13 = .ok (.iaload, 1) := by decide +kernel
theorem dX12_shifts_14 : decode cX12_shifts 14 = .ok (.iastore, 1) := by decide +kernel
theorem dX12_shifts_15 : decode cX12_shifts 15 = .ok (.iinc 2 1, 3) := by decide +kernel
theorem dX12_shifts_18 : decode cX12_shifts 18 = .ok (.goto (-16), 3) := by decide +kernel
theorem dX12_shifts_21 : decode cX12_shifts 21 = .ok (.return_, 1) := by decide +kernel
theorem dX12_shiftsNames_0 : decode cX12_shiftsNames 0 = .ok (.iconst 0, 1) := by decide +kernel
theorem dX12_shiftsNames_1 : decode cX12_shiftsNames 1 = .ok (.istore_n 1, 1) := by decide +kernel
theorem dX12_shiftsNames_2 : decode cX12_shiftsNames 2 = .ok (.iload_n 1, 1) := by decide +kernel
theorem dX12_shiftsNames_3 : decode cX12_shiftsNames 3 = .ok (.bipush 6, 2) := by decide +kernel
theorem dX12_shiftsNames_5 : decode cX12_shiftsNames 5 = .ok (.if_icmp .ge 18, 3) := by decide +kernel
theorem dX12_shiftsNames_8 : decode cX12_shiftsNames 8 = .ok (.aload_n 0, 1) := by decide +kernel
theorem dX12_shiftsNames_9 : decode cX12_shiftsNames 9 = .ok (.iload_n 1, 1) := by decide +kernel
theorem dX12_shiftsNames_10 : decode cX12_shiftsNames 10 = .ok (.aload_n 0, 1) := by decide +kernel
theorem dX12_shiftsNames_11 : decode cX12_shiftsNames 11 = .ok (.bipush 6, 2) := by decide +kernel
theorem dX12_shiftsNames_13 : decode cX12_shiftsNames 13 = .ok (.iload_n 1, 1) := by decide +kernel
theorem dX12_shiftsNames_14 : decode cX12_shiftsNames 14 = .ok (.iadd, 1) := by decide +kernel
theorem dX12_shiftsNames_15 : decode cX12_shiftsNames 15 = .ok (.laload, 1) := by decide +kernel
theorem dX12_shiftsNames_16 : decode cX12_shiftsNames 16 = .ok (.lastore, 1) := by decide +kernel
theorem dX12_shiftsNames_17 : decode cX12_shiftsNames 17 = .ok (.iinc 1 1, 3) := by decide +kernel
theorem dX12_shiftsNames_20 : decode cX12_shiftsNames 20 = .ok (.goto (-18), 3) := by decide +kernel
theorem dX12_shiftsNames_23 : decode cX12_shiftsNames 23 = .ok (.return_, 1) := by decide +kernel
set_option maxRecDepth 20000 in
theorem ggX12_lays_X12_shifts : GoodIn wsX12_lays wsX12_shifts := goodIn_r _ [16] (by decide +kernel) (by decide +kernel)
set_option maxRecDepth 20000 in
theorem gX12_lays_X12_shifts : GoodIn wsX12_lays (va_wsS RX12 316 yX12_shifts wsX12_shifts) := goodIn_app (goodIn_of _ (by decide +kernel)) ggX12_lays_X12_shifts
set_option maxRecDepth 20000 in
theorem ggX12_lays_X12_shiftsNames : GoodIn wsX12_lays wsX12_shiftsNames := goodIn_r _ [19] (by decide +kernel) (by decide +kernel)
set_option maxRecDepth 20000 in
theorem gX12_lays_X12_shiftsNames : GoodIn wsX12_lays (va_wsS RX12 320 yX12_shiftsNames wsX12_shiftsNames) := goodIn_app (goodIn_of _ (by decide +kernel)) ggX12_lays_X12_shiftsNames
theorem dX12_lays_0 : decode cX12_lays 0 = .ok (.aload_n 0, 1) := by decide +kernel
theorem dX12_lays_1 : decode cX12_lays 1 = .ok (.getfield 13, 3) := by decide +kernel
theorem dX12_lays_4 : decode cX12_lays 4 = .ok (.iconst 4, 1) := by decide +kernel
theorem dX12_lays_5 : decode cX12_lays 5 = .ok (.invokestatic 316, 3) := by decide +kernel
theorem dX12_lays_8 : decode cX12_lays 8 = .ok (.aload_n 0, 1) := by decide +kernel
theorem dX12_lays_9 : decode cX12_lays 9 = .ok (.getfield 16, 3) := by decide +kernel
theorem dX12_lays_12 : decode cX12_lays 12 = .ok (.invokestatic 320, 3) := by decide +kernel
theorem dX12_lays_15 : decode cX12_lays 15 = .ok (.aload_n 0, 1) := by decide +kernel
theorem dX12_lays_16 : decode cX12_lays 16 = .ok (.getfield 20, 3) := by decide +kernel
theorem dX12_lays_19 : decode cX12_lays 19 = .ok (.invokestatic 320, 3) := by decide +kernel
theorem dX12_lays_22 : decode cX12_lays 22 = .ok (.aload_n 0, 1) := by decide +kernel
theorem dX12_lays_23 : decode cX12_lays 23 = .ok (.getfield 23, 3) := by decide +kernel
theorem dX12_lays_26 : decode cX12_lays 26 = .ok (.bipush 6, 2) := by decide +kernel
theorem dX12_lays_28 : decode cX12_lays 28 = .ok (.invokestatic 316, 3) := by decide +kernel
theorem dX12_lays_31 : decode cX12_lays 31 = .ok (.aload_n 0, 1) := by decide +kernel
theorem dX12_lays_32 : decode cX12_lays 32 = .ok (.getfield 26, 3) := by decide +kernel
theorem dX12_lays_35 : decode cX12_lays 35 = .ok (.bipush 6, 2) := by decide +kernel
theorem dX12_lays_37 : decode cX12_lays 37 = .ok (.invokestatic 316, 3) := by decide +kernel
theorem dX12_lays_40 : decode cX12_lays 40 = .ok (.aload_n 0, 1) := by decide +kernel
theorem dX12_lays_41 : decode cX12_lays 41 = .ok (.getfield 29, 3) := by decide +kernel
theorem dX12_lays_44 : decode cX12_lays 44 = .ok (.bipush 6, 2) := by decide +kernel
theorem dX12_lays_46 : decode cX12_lays 46 = .ok (.invokestatic 316, 3) := by decide +kernel
theorem dX12_lays_49 : decode cX12_lays 49 = .ok (.aload_n 0, 1) := by decide +kernel
theorem dX12_lays_50 : decode cX12_lays 50 = .ok (.getfield 32, 3) := by decide +kernel
theorem dX12_lays_53 : decode cX12_lays 53 = .ok (.bipush 6, 2) := by decide +kernel
theorem dX12_lays_55 : decode cX12_lays 55 = .ok (.invokestatic 316, 3) := by decide +kernel
theorem dX12_lays_58 : decode cX12_lays 58 = .ok (.aload_n 0, 1) := by decide +kernel
theorem dX12_lays_59 : decode cX12_lays 59 = .ok (.getfield 35, 3) := by decide +kernel
theorem dX12_lays_62 : decode cX12_lays 62 = .ok (.bipush 6, 2) := by decide +kernel
theorem dX12_lays_64 : decode cX12_lays 64 = .ok (.invokestatic 316, 3) := by decide +kernel
theorem dX12_lays_67 : decode cX12_lays 67 = .ok (.aload_n 0, 1) := by decide +kernel
theorem dX12_lays_68 : decode cX12_lays 68 = .ok (.getfield 38, 3) := by decide +kernel
theorem dX12_lays_71 : decode cX12_lays 71 = .ok (.bipush 6, 2) := by decide +kernel
theorem dX12_lays_73 : decode cX12_lays 73 = .ok (.invokestatic 316, 3) := by decide +kernel
theorem dX12_lays_76 : decode cX12_lays 76 = .ok (.aload_n 0, 1) := by decide +kernel
theorem dX12_lays_77 : decode cX12_lays 77 = .ok (.getfield 47, 3) := by decide +kernel
theorem dX12_lays_80 : decode cX12_lays 80 = .ok (.sipush 1000, 3) := by decide +kernel
theorem dX12_lays_83 : decode cX12_lays 83 = .ok (.invokestatic 316, 3) := by decide +kernel
theorem dX12_lays_86 : decode cX12_lays 86 = .ok (.aload_n 0, 1) := by decide +kernel
theorem dX12_lays_87 : decode cX12_lays 87 = .ok (.getfield 41, 3) := by decide +kernel
theorem dX12_lays_90 : decode cX12_lays 90 = .ok (.iconst 0, 1) := by decide +kernel
theorem dX12_lays_91 : decode cX12_lays 91 = .ok (.aload_n 0, 1) := by decide +kernel
theorem dX12_lays_92 : decode cX12_lays 92 = .ok (.getfield 41, 3) := by decide +kernel
theorem dX12_lays_95 : decode cX12_lays 95 = .ok (.iconst 1, 1) := by decide +kernel
theorem dX12_lays_96 : decode cX12_lays 96 = .ok (.iaload, 1) := by decide +kernel
theorem dX12_lays_97 : decode cX12_lays 97 = .ok (.sipush 1000, 3) := by decide +kernel
theorem dX12_lays_100 : decode cX12_lays 100 = .ok (.isub, 1) := by decide +kernel
theorem dX12_lays_101 : decode cX12_lays 101 = .ok (.iastore, 1) := by decide +kernel
theorem dX12_lays_102 : decode cX12_lays 102 = .ok (.aload_n 0, 1) := by decide +kernel
theorem dX12_lays_103 : decode cX12_lays 103 = .ok (.getfield 44, 3) := by decide +kernel
theorem dX12_lays_106 : decode cX12_lays 106 = .ok (.iconst 0, 1) := by decide +kernel
theorem dX12_lays_107 : decode cX12_lays 107 = .ok (.aload_n 0, 1) := by decide +kernel
theorem dX12_lays_108 : decode cX12_lays 108 = .ok (.getfield 44, 3) := by decide +kernel
theorem dX12_lays_111 : decode cX12_lays 111 = .ok (.iconst 1, 1) := by decide +kernel
theorem dX12_lays_112 : decode cX12_lays 112 = .ok (.iaload, 1) := by decide +kernel
theorem dX12_lays_113 : decode cX12_lays 113 = .ok (.sipush 1000, 3) := by decide +kernel
theorem dX12_lays_116 : decode cX12_lays 116 = .ok (.isub, 1) := by decide +kernel
theorem dX12_lays_117 : decode cX12_lays 117 = .ok (.iastore, 1) := by decide +kernel
theorem dX12_lays_118 : decode cX12_lays 118 = .ok (.return_, 1) := by decide +kernel
theorem dX12_copies_0 : decode cX12_copies 0 = .ok (.iconst 0, 1) := by decide +kernel
theorem dX12_copies_1 : decode cX12_copies 1 = .ok (.istore 4, 2) := by decide +kernel
theorem dX12_copies_3 : decode cX12_copies 3 = .ok (.iload 4, 2) := by decide +kernel
theorem dX12_copies_5 : decode cX12_copies 5 = .ok (.bipush 31, 2) := by decide +kernel
theorem dX12_copies_7 : decode cX12_copies 7 = .ok (.if_icmp .ge 21, 3) := by decide +kernel
theorem dX12_copies_10 : decode cX12_copies 10 = .ok (.aload_n 2, 1) := by decide +kernel
theorem dX12_copies_11 : decode cX12_copies 11 = .ok (.iload_n 3, 1) := by decide +kernel
theorem dX12_copies_12 : decode cX12_copies 12 = .ok (.iload 4, 2) := by decide +kernel
theorem dX12_copies_14 : decode cX12_copies 14 = .ok (.iadd, 1) := by decide +kernel
theorem dX12_copies_15 : decode cX12_copies 15 = .ok (.aload_n 0, 1) := by decide +kernel
theorem dX12_copies_16 : decode cX12_copies 16 = .ok (.iload_n 1, 1) := by decide +kernel
theorem dX12_copies_17 : decode cX12_copies 17 = .ok (.iload 4, 2) := by decide +kernel
theorem dX12_copies_19 : decode cX12_copies 19 = .ok (.iadd, 1) := by decide +kernel
theorem dX12_copies_20 : decode cX12_copies 20 = .ok (.iaload, 1) := by decide +kernel
theorem dX12_copies_21 : decode cX12_copies 21 = .ok (.iastore, 1) := by decide +kernel
theorem dX12_copies_22 : decode cX12_copies 22 = .ok (.iinc 4 1, 3) := by decide +kernel
theorem dX12_copies_25 : decode cX12_copies 25 = .ok (.goto (-22), 3) := by decide +kernel
theorem dX12_copies_28 : decode cX12_copies 28 = .ok (.return_, 1) := by decide +kernel
theorem dX12_laysLines_0 : decode cX12_laysLines 0 = .ok (.aload_n 0, 1) := by decide +kernel
theorem dX12_laysLines_1 : decode cX12_laysLines 1 = .ok (.getfield 87, 3) := by decide +kernel
theorem dX12_laysLines_4 : decode cX12_laysLines 4 = .ok (.iload_n 2, 1) := by decide +kernel
theorem dX12_laysLines_5 : decode cX12_laysLines 5 = .ok (.aload_n 0, 1) := by decide +kernel
theorem dX12_laysLines_6 : decode cX12_laysLines 6 = .ok (.getfield 87, 3) := by decide +kernel
theorem dX12_laysLines_9 : decode cX12_laysLines 9 = .ok (.iload_n 1, 1) := by decide +kernel
theorem dX12_laysLines_10 : decode cX12_laysLines 10 = .ok (.iaload, 1) := by decide +kernel
theorem dX12_laysLines_11 : decode cX12_laysLines 11 = .ok (.iastore, 1) := by decide +kernel
theorem dX12_laysLines_12 : decode cX12_laysLines 12 = .ok (.iconst 0, 1) := by decide +kernel
theorem dX12_laysLines_13 : decode cX12_laysLines 13 = .ok (.istore_n 3, 1) := by decide +kernel
theorem dX12_laysLines_14 : decode cX12_laysLines 14 = .ok (.iload_n 3, 1) := by decide +kernel
theorem dX12_laysLines_15 : decode cX12_laysLines 15 = .ok (.bipush 40, 2) := by decide +kernel
theorem dX12_laysLines_17 : decode cX12_laysLines 17 = .ok (.if_icmp .ge 75, 3) := by decide +kernel
theorem dX12_laysLines_20 : decode cX12_laysLines 20 = .ok (.aload_n 0, 1) := by decide +kernel
theorem dX12_laysLines_21 : decode cX12_laysLines 21 = .ok (.getfield 90, 3) := by decide +kernel
theorem dX12_laysLines_24 : decode cX12_laysLines 24 = .ok (.bipush 40, 2) := by decide +kernel
theorem dX12_laysLines_26 : decode cX12_laysLines 26 = .ok (.iload_n 2, 1) := by decide +kernel
theorem dX12_laysLines_27 : decode cX12_laysLines 27 = .ok (.imul, 1) := by decide +kernel
theorem dX12_laysLines_28 : decode cX12_laysLines 28 = .ok (.iload_n 3, 1) := by decide +kernel
theorem dX12_laysLines_29 : decode cX12_laysLines 29 = .ok (.iadd, 1) := by decide +kernel
theorem dX12_laysLines_30 : decode cX12_laysLines 30 = .ok (.aload_n 0, 1) := by decide +kernel
theorem dX12_laysLines_31 : decode cX12_laysLines 31 = .ok (.getfield 90, 3) := by decide +kernel
theorem dX12_laysLines_34 : decode cX12_laysLines 34 = .ok (.bipush 40, 2) := by decide +kernel
theorem dX12_laysLines_36 : decode cX12_laysLines 36 = .ok (.iload_n 1, 1) := by decide +kernel
theorem dX12_laysLines_37 : decode cX12_laysLines 37 = .ok (.imul, 1) := by decide +kernel
theorem dX12_laysLines_38 : decode cX12_laysLines 38 = .ok (.iload_n 3, 1) := by decide +kernel
theorem dX12_laysLines_39 : decode cX12_laysLines 39 = .ok (.iadd, 1) := by decide +kernel
theorem dX12_laysLines_40 : decode cX12_laysLines 40 = .ok (.iaload, 1) := by decide +kernel
theorem dX12_laysLines_41 : decode cX12_laysLines 41 = .ok (.iastore, 1) := by decide +kernel
theorem dX12_laysLines_42 : decode cX12_laysLines 42 = .ok (.aload_n 0, 1) := by decide +kernel
theorem dX12_laysLines_43 : decode cX12_laysLines 43 = .ok (.getfield 93, 3) := by decide +kernel
theorem dX12_laysLines_46 : decode cX12_laysLines 46 = .ok (.bipush 40, 2) := by decide +kernel
theorem dX12_laysLines_48 : decode cX12_laysLines 48 = .ok (.iload_n 2, 1) := by decide +kernel
theorem dX12_laysLines_49 : decode cX12_laysLines 49 = .ok (.imul, 1) := by decide +kernel
theorem dX12_laysLines_50 : decode cX12_laysLines 50 = .ok (.iload_n 3, 1) := by decide +kernel
theorem dX12_laysLines_51 : decode cX12_laysLines 51 = .ok (.iadd, 1) := by decide +kernel
theorem dX12_laysLines_52 : decode cX12_laysLines 52 = .ok (.aload_n 0, 1) := by decide +kernel
theorem dX12_laysLines_53 : decode cX12_laysLines 53 = .ok (.getfield 93, 3) := by decide +kernel
theorem dX12_laysLines_56 : decode cX12_laysLines 56 = .ok (.bipush 40, 2) := by decide +kernel
theorem dX12_laysLines_58 : decode cX12_laysLines 58 = .ok (.iload_n 1, 1) := by decide +kernel
theorem dX12_laysLines_59 : decode cX12_laysLines 59 = .ok (.imul, 1) := by decide +kernel
theorem dX12_laysLines_60 : decode cX12_laysLines 60 = .ok (.iload_n 3, 1) := by decide +kernel
theorem dX12_laysLines_61 : decode cX12_laysLines 61 = .ok (.iadd, 1) := by decide +kernel
theorem dX12_laysLines_62 : decode cX12_laysLines 62 = .ok (.iaload, 1) := by decide +kernel
theorem dX12_laysLines_63 : decode cX12_laysLines 63 = .ok (.iastore, 1) := by decide +kernel
theorem dX12_laysLines_64 : decode cX12_laysLines 64 = .ok (.aload_n 0, 1) := by decide +kernel
theorem dX12_laysLines_65 : decode cX12_laysLines 65 = .ok (.getfield 96, 3) := by decide +kernel
theorem dX12_laysLines_68 : decode cX12_laysLines 68 = .ok (.bipush 40, 2) := by decide +kernel
theorem dX12_laysLines_70 : decode cX12_laysLines 70 = .ok (.iload_n 2, 1) := by decide +kernel
theorem dX12_laysLines_71 : decode cX12_laysLines 71 = .ok (.imul, 1) := by decide +kernel
theorem dX12_laysLines_72 : decode cX12_laysLines 72 = .ok (.iload_n 3, 1) := by decide +kernel
theorem dX12_laysLines_73 : decode cX12_laysLines 73 = .ok (.iadd, 1) := by decide +kernel
theorem dX12_laysLines_74 : decode cX12_laysLines 74 = .ok (.aload_n 0, 1) := by decide +kernel
theorem dX12_laysLines_75 : decode cX12_laysLines 75 = .ok (.getfield 96, 3) := by decide +kernel
theorem dX12_laysLines_78 : decode cX12_laysLines 78 = .ok (.bipush 40, 2) := by decide +kernel
theorem dX12_laysLines_80 : decode cX12_laysLines 80 = .ok (.iload_n 1, 1) := by decide +kernel
theorem dX12_laysLines_81 : decode cX12_laysLines 81 = .ok (.imul, 1) := by decide +kernel
theorem dX12_laysLines_82 : decode cX12_laysLines 82 = .ok (.iload_n 3, 1) := by decide +kernel
theorem dX12_laysLines_83 : decode cX12_laysLines 83 = .ok (.iadd, 1) := by decide +kernel
theorem dX12_laysLines_84 : decode cX12_laysLines 84 = .ok (.iaload, 1) := by decide +kernel
theorem dX12_laysLines_85 : decode cX12_laysLines 85 = .ok (.iastore, 1) := by decide +kernel
theorem dX12_laysLines_86 : decode cX12_laysLines 86 = .ok (.iinc 3 1, 3) := by decide +kernel
theorem dX12_laysLines_89 : decode cX12_laysLines 89 = .ok (.goto (-75), 3) := by decide +kernel
theorem dX12_laysLines_92 : decode cX12_laysLines 92 = .ok (.return_, 1) := by decide +kernel
theorem dX12_laysSeen_0 : decode cX12_laysSeen 0 = .ok (.aload_n 0, 1) := by decide +kernel
theorem dX12_laysSeen_1 : decode cX12_laysSeen 1 = .ok (.getfield 99, 3) := by decide +kernel
theorem dX12_laysSeen_4 : decode cX12_laysSeen 4 = .ok (.iload_n 2, 1) := by decide +kernel
theorem dX12_laysSeen_5 : decode cX12_laysSeen 5 = .ok (.aload_n 0, 1) := by decide +kernel
theorem dX12_laysSeen_6 : decode cX12_laysSeen 6 = .ok (.getfield 99, 3) := by decide +kernel
theorem dX12_laysSeen_9 : decode cX12_laysSeen 9 = .ok (.iload_n 1, 1) := by decide +kernel
theorem dX12_laysSeen_10 : decode cX12_laysSeen 10 = .ok (.iaload, 1) := by decide +kernel
theorem dX12_laysSeen_11 : decode cX12_laysSeen 11 = .ok (.iastore, 1) := by decide +kernel
theorem dX12_laysSeen_12 : decode cX12_laysSeen 12 = .ok (.iconst 0, 1) := by decide +kernel
theorem dX12_laysSeen_13 : decode cX12_laysSeen 13 = .ok (.istore_n 3, 1) := by decide +kernel
theorem dX12_laysSeen_14 : decode cX12_laysSeen 14 = .ok (.iload_n 3, 1) := by decide +kernel
theorem dX12_laysSeen_15 : decode cX12_laysSeen 15 = .ok (.bipush 8, 2) := by decide +kernel
theorem dX12_laysSeen_17 : decode cX12_laysSeen 17 = .ok (.if_icmp .ge 53, 3) := by decide +kernel
theorem dX12_laysSeen_20 : decode cX12_laysSeen 20 = .ok (.aload_n 0, 1) := by decide +kernel
theorem dX12_laysSeen_21 : decode cX12_laysSeen 21 = .ok (.getfield 102, 3) := by decide +kernel
theorem dX12_laysSeen_24 : decode cX12_laysSeen 24 = .ok (.bipush 8, 2) := by decide +kernel
theorem dX12_laysSeen_26 : decode cX12_laysSeen 26 = .ok (.iload_n 2, 1) := by decide +kernel
theorem dX12_laysSeen_27 : decode cX12_laysSeen 27 = .ok (.imul, 1) := by decide +kernel
theorem dX12_laysSeen_28 : decode cX12_laysSeen 28 = .ok (.iload_n 3, 1) := by decide +kernel
theorem dX12_laysSeen_29 : decode cX12_laysSeen 29 = .ok (.iadd, 1) := by decide +kernel
theorem dX12_laysSeen_30 : decode cX12_laysSeen 30 = .ok (.aload_n 0, 1) := by decide +kernel
theorem dX12_laysSeen_31 : decode cX12_laysSeen 31 = .ok (.getfield 102, 3) := by decide +kernel
theorem dX12_laysSeen_34 : decode cX12_laysSeen 34 = .ok (.bipush 8, 2) := by decide +kernel
theorem dX12_laysSeen_36 : decode cX12_laysSeen 36 = .ok (.iload_n 1, 1) := by decide +kernel
theorem dX12_laysSeen_37 : decode cX12_laysSeen 37 = .ok (.imul, 1) := by decide +kernel
theorem dX12_laysSeen_38 : decode cX12_laysSeen 38 = .ok (.iload_n 3, 1) := by decide +kernel
theorem dX12_laysSeen_39 : decode cX12_laysSeen 39 = .ok (.iadd, 1) := by decide +kernel
theorem dX12_laysSeen_40 : decode cX12_laysSeen 40 = .ok (.iaload, 1) := by decide +kernel
theorem dX12_laysSeen_41 : decode cX12_laysSeen 41 = .ok (.iastore, 1) := by decide +kernel
theorem dX12_laysSeen_42 : decode cX12_laysSeen 42 = .ok (.aload_n 0, 1) := by decide +kernel
theorem dX12_laysSeen_43 : decode cX12_laysSeen 43 = .ok (.getfield 105, 3) := by decide +kernel
theorem dX12_laysSeen_46 : decode cX12_laysSeen 46 = .ok (.bipush 8, 2) := by decide +kernel
theorem dX12_laysSeen_48 : decode cX12_laysSeen 48 = .ok (.iload_n 2, 1) := by decide +kernel
theorem dX12_laysSeen_49 : decode cX12_laysSeen 49 = .ok (.imul, 1) := by decide +kernel
theorem dX12_laysSeen_50 : decode cX12_laysSeen 50 = .ok (.iload_n 3, 1) := by decide +kernel
theorem dX12_laysSeen_51 : decode cX12_laysSeen 51 = .ok (.iadd, 1) := by decide +kernel
theorem dX12_laysSeen_52 : decode cX12_laysSeen 52 = .ok (.aload_n 0, 1) := by decide +kernel
theorem dX12_laysSeen_53 : decode cX12_laysSeen 53 = .ok (.getfield 105, 3) := by decide +kernel
theorem dX12_laysSeen_56 : decode cX12_laysSeen 56 = .ok (.bipush 8, 2) := by decide +kernel
theorem dX12_laysSeen_58 : decode cX12_laysSeen 58 = .ok (.iload_n 1, 1) := by decide +kernel
theorem dX12_laysSeen_59 : decode cX12_laysSeen 59 = .ok (.imul, 1) := by decide +kernel
theorem dX12_laysSeen_60 : decode cX12_laysSeen 60 = .ok (.iload_n 3, 1) := by decide +kernel
theorem dX12_laysSeen_61 : decode cX12_laysSeen 61 = .ok (.iadd, 1) := by decide +kernel
theorem dX12_laysSeen_62 : decode cX12_laysSeen 62 = .ok (.baload, 1) := by decide +kernel
theorem dX12_laysSeen_63 : decode cX12_laysSeen 63 = .ok (.bastore, 1) := by decide +kernel
theorem dX12_laysSeen_64 : decode cX12_laysSeen 64 = .ok (.iinc 3 1, 3) := by decide +kernel
theorem dX12_laysSeen_67 : decode cX12_laysSeen 67 = .ok (.goto (-53), 3) := by decide +kernel
theorem dX12_laysSeen_70 : decode cX12_laysSeen 70 = .ok (.return_, 1) := by decide +kernel
theorem dX12_fresh0_0 : decode cX12_fresh0 0 = .ok (.iconst 0, 1) := by decide +kernel
theorem dX12_fresh0_1 : decode cX12_fresh0 1 = .ok (.istore_n 1, 1) := by decide +kernel
theorem dX12_fresh0_2 : decode cX12_fresh0 2 = .ok (.iload_n 1, 1) := by decide +kernel
theorem dX12_fresh0_3 : decode cX12_fresh0 3 = .ok (.bipush 31, 2) := by decide +kernel
theorem dX12_fresh0_5 : decode cX12_fresh0 5 = .ok (.if_icmp .ge 16, 3) := by decide +kernel
theorem dX12_fresh0_8 : decode cX12_fresh0 8 = .ok (.aload_n 0, 1) := by decide +kernel
theorem dX12_fresh0_9 : decode cX12_fresh0 9 = .ok (.getfield 108, 3) := by decide +kernel
theorem dX12_fresh0_12 : decode cX12_fresh0 12 = .ok (.iload_n 1, 1) := by decide +kernel
theorem dX12_fresh0_13 : decode cX12_fresh0 13 = .ok (.iconst 0, 1) := by decide +kernel
theorem dX12_fresh0_14 : decode cX12_fresh0 14 = .ok (.iastore, 1) := by decide +kernel
theorem dX12_fresh0_15 : decode cX12_fresh0 15 = .ok (.iinc 1 1, 3) := by decide +kernel
theorem dX12_fresh0_18 : decode cX12_fresh0 18 = .ok (.goto (-16), 3) := by decide +kernel
theorem dX12_fresh0_21 : decode cX12_fresh0 21 = .ok (.iconst 0, 1) := by decide +kernel
theorem dX12_fresh0_22 : decode cX12_fresh0 22 = .ok (.istore_n 1, 1) := by decide +kernel
theorem dX12_fresh0_23 : decode cX12_fresh0 23 = .ok (.iload_n 1, 1) := by decide +kernel
theorem dX12_fresh0_24 : decode cX12_fresh0 24 = .ok (.aload_n 0, 1) := by decide +kernel
theorem dX12_fresh0_25 : decode cX12_fresh0 25 = .ok (.getfield 13, 3) := by decide +kernel
theorem dX12_fresh0_28 : decode cX12_fresh0 28 = .ok (.iconst 1, 1) := by decide +kernel
theorem dX12_fresh0_29 : decode cX12_fresh0 29 = .ok (.iaload, 1) := by decide +kernel
theorem dX12_fresh0_30 : decode cX12_fresh0 30 = .ok (.if_icmp .ge 70, 3) := by decide +kernel
theorem dX12_fresh0_33 : decode cX12_fresh0 33 = .ok (.aload_n 0, 1) := by decide +kernel
theorem dX12_fresh0_34 : decode cX12_fresh0 34 = .ok (.getfield 108, 3) := by decide +kernel
theorem dX12_fresh0_37 : decode cX12_fresh0 37 = .ok (.iconst 1, 1) := by decide +kernel
theorem dX12_fresh0_38 : decode cX12_fresh0 38 = .ok (.iload_n 1, 1) := by decide +kernel
theorem dX12_fresh0_39 : decode cX12_fresh0 39 = .ok (.iadd, 1) := by decide +kernel
theorem dX12_fresh0_40 : decode cX12_fresh0 40 = .ok (.aload_n 0, 1) := by decide +kernel
theorem dX12_fresh0_41 : decode cX12_fresh0 41 = .ok (.getfield 32, 3) := by decide +kernel
theorem dX12_fresh0_44 : decode cX12_fresh0 44 = .ok (.iload_n 1, 1) := by decide +kernel
theorem dX12_fresh0_45 : decode cX12_fresh0 45 = .ok (.iaload, 1) := by decide +kernel
theorem dX12_fresh0_46 : decode cX12_fresh0 46 = .ok (.iastore, 1) := by decide +kernel
theorem dX12_fresh0_47 : decode cX12_fresh0 47 = .ok (.aload_n 0, 1) := by decide +kernel
theorem dX12_fresh0_48 : decode cX12_fresh0 48 = .ok (.getfield 108, 3) := by decide +kernel
theorem dX12_fresh0_51 : decode cX12_fresh0 51 = .ok (.bipush 7, 2) := by decide +kernel
theorem dX12_fresh0_53 : decode cX12_fresh0 53 = .ok (.iload_n 1, 1) := by decide +kernel
theorem dX12_fresh0_54 : decode cX12_fresh0 54 = .ok (.iadd, 1) := by decide +kernel
theorem dX12_fresh0_55 : decode cX12_fresh0 55 = .ok (.aload_n 0, 1) := by decide +kernel
theorem dX12_fresh0_56 : decode cX12_fresh0 56 = .ok (.getfield 35, 3) := by decide +kernel
theorem dX12_fresh0_59 : decode cX12_fresh0 59 = .ok (.iload_n 1, 1) := by decide +kernel
theorem dX12_fresh0_60 : decode cX12_fresh0 60 = .ok (.iaload, 1) := by decide +kernel
theorem dX12_fresh0_61 : decode cX12_fresh0 61 = .ok (.iastore, 1) := by decide +kernel
theorem dX12_fresh0_62 : decode cX12_fresh0 62 = .ok (.aload_n 0, 1) := by decide +kernel
theorem dX12_fresh0_63 : decode cX12_fresh0 63 = .ok (.getfield 108, 3) := by decide +kernel
theorem dX12_fresh0_66 : decode cX12_fresh0 66 = .ok (.bipush 19, 2) := by decide +kernel
theorem dX12_fresh0_68 : decode cX12_fresh0 68 = .ok (.iload_n 1, 1) := by decide +kernel
theorem dX12_fresh0_69 : decode cX12_fresh0 69 = .ok (.iadd, 1) := by decide +kernel
theorem dX12_fresh0_70 : decode cX12_fresh0 70 = .ok (.aload_n 0, 1) := by decide +kernel
theorem dX12_fresh0_71 : decode cX12_fresh0 71 = .ok (.getfield 38, 3) := by decide +kernel
theorem dX12_fresh0_74 : decode cX12_fresh0 74 = .ok (.iload_n 1, 1) := by decide +kernel
theorem dX12_fresh0_75 : decode cX12_fresh0 75 = .ok (.iaload, 1) := by decide +kernel
theorem dX12_fresh0_76 : decode cX12_fresh0 76 = .ok (.iastore, 1) := by decide +kernel
theorem dX12_fresh0_77 : decode cX12_fresh0 77 = .ok (.aload_n 0, 1) := by decide +kernel
theorem dX12_fresh0_78 : decode cX12_fresh0 78 = .ok (.getfield 108, 3) := by decide +kernel
theorem dX12_fresh0_81 : decode cX12_fresh0 81 = .ok (.bipush 25, 2) := by decide +kernel
theorem dX12_fresh0_83 : decode cX12_fresh0 83 = .ok (.iload_n 1, 1) := by decide +kernel
theorem dX12_fresh0_84 : decode cX12_fresh0 84 = .ok (.iadd, 1) := by decide +kernel
theorem dX12_fresh0_85 : decode cX12_fresh0 85 = .ok (.iconst 1, 1) := by decide +kernel
theorem dX12_fresh0_86 : decode cX12_fresh0 86 = .ok (.aload_n 0, 1) := by decide +kernel
theorem dX12_fresh0_87 : decode cX12_fresh0 87 = .ok (.getfield 32, 3) := by decide +kernel
theorem dX12_fresh0_90 : decode cX12_fresh0 90 = .ok (.iload_n 1, 1) := by decide +kernel
theorem dX12_fresh0_91 : decode cX12_fresh0 91 = .ok (.iaload, 1) := by decide +kernel
theorem dX12_fresh0_92 : decode cX12_fresh0 92 = .ok (.ishl, 1) := by decide +kernel
theorem dX12_fresh0_93 : decode cX12_fresh0 93 = .ok (.iastore, 1) := by decide +kernel
theorem dX12_fresh0_94 : decode cX12_fresh0 94 = .ok (.iinc 1 1, 3) := by decide +kernel
theorem dX12_fresh0_97 : decode cX12_fresh0 97 = .ok (.goto (-74), 3) := by decide +kernel
theorem dX12_fresh0_100 : decode cX12_fresh0 100 = .ok (.return_, 1) := by decide +kernel
set_option maxRecDepth 20000 in
theorem ggX12_land_X12_readsAll : GoodIn wsX12_land wsX12_readsAll := goodIn_r _ [11, 12, 13, 14, 15, 16, 17, 18, 19, 20, 21, 22, 23, 24, 25, 26, 10, 27, 28, 29, 30, 31, 32, 33, 34, 35, 36, 37, 38, 39, 40, 41, 42, 43, 44, 45, 46, 47, 48, 49, 50, 51, 52, 53, 54, 55, 56, 57, 58, 59, 60, 61, 62, 2, 63, 64, 65, 66, 67, 68, 69, 70, 71, 72, 73, 74, 75, 76, 77, 78, 79, 80, 81, 82, 83, 84, 85, 86, 87, 88, 89, 90, 91, 92, 93, 94, 95, 96, 97, 98, 99, 100, 101, 102, 103, 104, 105, 106, 107, 108, 109, 110, 111, 112, 113, 114, 115, 116, 117, 118, 119, 120, 121, 122, 123, 124, 125, 126, 127, 128, 129, 130, 131, 132, 133, 134, 135, 136, 137, 138, 139, 140, 141, 142, 143, 144, 145, 146, 147, 148, 149, 150, 151, 152, 153, 154, 155, 156, 157, 158, 159, 175, 176, 177, 178, 179, 180, 181, 182, 183, 184, 185, 186, 187, 188, 189, 190, 191, 192, 193, 194, 195, 196, 197, 198, 199, 200, 201, 202, 203, 204, 205, 206, 207, 208, 209, 210, 211, 212, 213, 214, 215, 216, 217, 218, 219, 220, 221, 222, 223, 224, 225, 226, 227, 228, 229, 230, 231] (by decide +kernel) (by decide +kernel)
set_option maxRecDepth 20000 in
theorem gX12_land_X12_readsAll : GoodIn wsX12_land (wsV RX12 327 RX12 yX12_readsAll wsX12_readsAll) := goodIn_app (goodIn_of _ (by decide +kernel)) ggX12_land_X12_readsAll
set_option maxRecDepth 20000 in
theorem ggX12_land_X12_lays : GoodIn wsX12_land wsX12_lays := goodIn_r _ [163, 12, 57, 93, 54, 56, 129, 130, 131, 132, 159, 13, 14, 164, 165, 10, 166, 167, 168, 169, 175, 176, 177, 178, 179, 180, 181, 182, 183, 184, 185, 186, 187, 188, 189, 190, 191, 192, 193, 194, 195, 196, 197, 198, 199, 200, 201, 202, 203, 204, 205, 206, 207, 208, 209, 210, 211, 212, 213, 214, 215, 216, 217, 218, 219, 220, 221, 222, 223, 224, 225, 226, 227, 228, 229, 230, 231] (by decide +kernel) (by decide +kernel)
set_option maxRecDepth 20000 in
theorem gX12_land_X12_lays : GoodIn wsX12_land (wsV RX12 330 RX12 yX12_lays wsX12_lays) := goodIn_app (goodIn_of _ (by decide +kernel)) ggX12_land_X12_lays
set_option maxRecDepth 20000 in
theorem ggX12_land_X12_fresh0 : GoodIn wsX12_land wsX12_fresh0 := goodIn_r _ [173, 174, 12, 130, 131, 132, 175, 176, 177, 178, 179, 180, 181, 182, 183, 184, 185, 186, 187, 188, 189, 190, 191, 192, 193, 194, 195, 196, 197, 198, 199, 200, 201, 202, 203, 204, 205, 206, 207, 208, 209, 210, 211, 212, 213, 214, 215, 216, 217, 218, 219, 220, 221, 222, 223, 224, 225, 226, 227, 228, 229, 230, 231] (by decide +kernel) (by decide +kernel)
set_option maxRecDepth 20000 in
theorem gX12_land_X12_fresh0 : GoodIn wsX12_land (wsV RX12 333 RX12 yX12_fresh0 wsX12_fresh0) := goodIn_app (goodIn_of _ (by decide +kernel)) ggX12_land_X12_fresh0
theorem dX12_land_0 : decode cX12_land 0 = .ok (.aload_n 0, 1) := by decide +kernel
theorem dX12_land_1 : decode cX12_land 1 = .ok (.iconst 0, 1) := by decide +kernel
theorem dX12_land_2 : decode cX12_land 2 = .ok (.putfield 129, 3) := by decide +kernel
theorem dX12_land_5 : decode cX12_land 5 = .ok (.aload_n 0, 1) := by decide +kernel
theorem dX12_land_6 : decode cX12_land 6 = .ok (.invokevirtual 327, 3) := by decide +kernel
theorem dX12_land_9 : decode cX12_land 9 = .ok (.ifCond .ne 8, 3) := by decide +kernel
theorem dX12_land_12 : decode cX12_land 12 = .ok (.aload_n 0, 1) := by decide +kernel
theorem dX12_land_13 : decode cX12_land 13 = .ok (.getfield 165, 3) := by decide +kernel
theorem dX12_land_16 : decode cX12_land 16 = .ok (.ireturn, 1) := by decide +kernel
theorem dX12_land_17 : decode cX12_land 17 = .ok (.aload_n 0, 1) := by decide +kernel
theorem dX12_land_18 : decode cX12_land 18 = .ok (.invokevirtual 330, 3) := by decide +kernel
theorem dX12_land_21 : decode cX12_land 21 = .ok (.aload_n 0, 1) := by decide +kernel
theorem dX12_land_22 : decode cX12_land 22 = .ok (.invokevirtual 333, 3) := by decide +kernel
theorem dX12_land_25 : decode cX12_land 25 = .ok (.aload_n 0, 1) := by decide +kernel
theorem dX12_land_26 : decode cX12_land 26 = .ok (.getfield 87, 3) := by decide +kernel
theorem dX12_land_29 : decode cX12_land 29 = .ok (.iconst 0, 1) := by decide +kernel
theorem dX12_land_30 : decode cX12_land 30 = .ok (.iconst 0, 1) := by decide +kernel
theorem dX12_land_31 : decode cX12_land 31 = .ok (.iastore, 1) := by decide +kernel
theorem dX12_land_32 : decode cX12_land 32 = .ok (.aload_n 0, 1) := by decide +kernel
theorem dX12_land_33 : decode cX12_land 33 = .ok (.getfield 99, 3) := by decide +kernel
theorem dX12_land_36 : decode cX12_land 36 = .ok (.iconst 0, 1) := by decide +kernel
theorem dX12_land_37 : decode cX12_land 37 = .ok (.iconst 0, 1) := by decide +kernel
theorem dX12_land_38 : decode cX12_land 38 = .ok (.iastore, 1) := by decide +kernel
theorem dX12_land_39 : decode cX12_land 39 = .ok (.aload_n 0, 1) := by decide +kernel
theorem dX12_land_40 : decode cX12_land 40 = .ok (.iconst 0, 1) := by decide +kernel
theorem dX12_land_41 : decode cX12_land 41 = .ok (.putfield 336, 3) := by decide +kernel
theorem dX12_land_44 : decode cX12_land 44 = .ok (.iconst 0, 1) := by decide +kernel
theorem dX12_land_45 : decode cX12_land 45 = .ok (.istore_n 1, 1) := by decide +kernel
theorem dX12_land_46 : decode cX12_land 46 = .ok (.iload_n 1, 1) := by decide +kernel
theorem dX12_land_47 : decode cX12_land 47 = .ok (.iconst 4, 1) := by decide +kernel
theorem dX12_land_48 : decode cX12_land 48 = .ok (.if_icmp .ge 16, 3) := by decide +kernel
theorem dX12_land_51 : decode cX12_land 51 = .ok (.aload_n 0, 1) := by decide +kernel
theorem dX12_land_52 : decode cX12_land 52 = .ok (.getfield 123, 3) := by decide +kernel
theorem dX12_land_55 : decode cX12_land 55 = .ok (.iload_n 1, 1) := by decide +kernel
theorem dX12_land_56 : decode cX12_land 56 = .ok (.iconst 0, 1) := by decide +kernel
theorem dX12_land_57 : decode cX12_land 57 = .ok (.bastore, 1) := by decide +kernel
theorem dX12_land_58 : decode cX12_land 58 = .ok (.iinc 1 1, 3) := by decide +kernel
theorem dX12_land_61 : decode cX12_land 61 = .ok (.goto (-15), 3) := by decide +kernel
theorem dX12_land_64 : decode cX12_land 64 = .ok (.iconst 0, 1) := by decide +kernel
theorem dX12_land_65 : decode cX12_land 65 = .ok (.ireturn, 1) := by decide +kernel
set_option maxRecDepth 20000 in
theorem ggX12_journey_X12_begins : GoodIn wsX12_journey wsX12_begins := goodIn_r _ [10, 11, 12, 13, 14, 15, 16, 9, 17, 18, 19, 20, 21, 4, 22, 23, 24, 25, 26, 27, 106, 107, 108, 109, 110, 111, 112, 113, 114, 115, 116, 117, 118, 119, 120, 121, 122, 123, 124, 125, 126, 127, 128, 129, 130, 131, 132, 133, 134, 135, 136, 137, 138, 139, 140, 141, 142, 143, 144, 145, 146, 147, 148, 149, 150, 151, 152, 153, 154, 155, 156, 157, 158, 159, 160, 161, 162] (by decide +kernel) (by decide +kernel)
set_option maxRecDepth 20000 in
theorem gX12_journey_X12_begins : GoodIn wsX12_journey (wsV RX12 298 RX12 yX12_begins wsX12_begins) := goodIn_app (goodIn_of _ (by decide +kernel)) ggX12_journey_X12_begins
set_option maxRecDepth 20000 in
theorem ggX12_journey_X12_readsLine : GoodIn wsX12_journey wsX12_readsLine := goodIn_r _ [31, 32, 33, 34, 35, 2, 36, 37, 3, 38, 39, 40, 41, 9, 42, 4, 20, 43, 44, 45, 46, 19, 5, 14, 15, 16, 17, 13, 12, 18, 21, 22, 23, 24, 25, 26, 27, 47, 48, 49, 50, 51, 52, 53, 54, 55, 56, 57, 58, 59, 60, 61, 62, 63, 64, 65, 66, 67, 68, 69, 70, 71, 72, 73, 74, 75, 76, 77, 78, 79, 80, 81, 82, 83, 84, 85, 86, 87, 88, 89, 90, 91, 92, 93, 94, 95, 96, 97, 98, 99, 100, 101, 106, 107, 108, 109, 110, 111, 112, 113, 114, 115, 116, 117, 118, 119, 120, 121, 122, 123, 124, 125, 126, 127, 128, 129, 130, 131, 132, 133, 134, 135, 136, 137, 138, 139, 140, 141, 142, 143, 144, 145, 146, 147, 148, 149, 150, 151, 152, 153, 154, 155, 156, 157, 158, 159, 160, 161, 162] (by decide +kernel) (by decide +kernel)
set_option maxRecDepth 20000 in
theorem gX12_journey_X12_readsLine : GoodIn wsX12_journey (wsV RX12 339 RX12 yX12_readsLine wsX12_readsLine) := goodIn_app (goodIn_of _ (by decide +kernel)) ggX12_journey_X12_readsLine
set_option maxRecDepth 20000 in
theorem ggX12_journey_X12_laysLines : GoodIn wsX12_journey wsX12_laysLines := goodIn_r _ [105, 2, 36, 37, 38, 106, 107, 108, 109, 110, 111, 112, 113, 114, 115, 116, 117, 118, 119, 120, 121, 122, 123, 124, 125, 126, 127, 128, 129, 130, 131, 132, 133, 134, 135, 136, 137, 138, 139, 140, 141, 142, 143, 144, 145, 146, 147, 148, 149, 150, 151, 152, 153, 154, 155, 156, 157, 158, 159, 160, 161, 162] (by decide +kernel) (by decide +kernel)
set_option maxRecDepth 20000 in
theorem gX12_journey_X12_laysLines : GoodIn wsX12_journey (wsV RX12 342 RX12 yX12_laysLines wsX12_laysLines) := goodIn_app (goodIn_of _ (by decide +kernel)) ggX12_journey_X12_laysLines
theorem dX12_journey_0 : decode cX12_journey 0 = .ok (.aload_n 0, 1) := by decide +kernel
theorem dX12_journey_1 : decode cX12_journey 1 = .ok (.iconst 0, 1) := by decide +kernel
theorem dX12_journey_2 : decode cX12_journey 2 = .ok (.putfield 129, 3) := by decide +kernel
theorem dX12_journey_5 : decode cX12_journey 5 = .ok (.aload_n 0, 1) := by decide +kernel
theorem dX12_journey_6 : decode cX12_journey 6 = .ok (.getfield 87, 3) := by decide +kernel
theorem dX12_journey_9 : decode cX12_journey 9 = .ok (.iconst 5, 1) := by decide +kernel
theorem dX12_journey_10 : decode cX12_journey 10 = .ok (.iconst 0, 1) := by decide +kernel
theorem dX12_journey_11 : decode cX12_journey 11 = .ok (.iastore, 1) := by decide +kernel
theorem dX12_journey_12 : decode cX12_journey 12 = .ok (.aload_n 0, 1) := by decide +kernel
theorem dX12_journey_13 : decode cX12_journey 13 = .ok (.iconst 0, 1) := by decide +kernel
theorem dX12_journey_14 : decode cX12_journey 14 = .ok (.putfield 256, 3) := by decide +kernel
theorem dX12_journey_17 : decode cX12_journey 17 = .ok (.aload_n 0, 1) := by decide +kernel
theorem dX12_journey_18 : decode cX12_journey 18 = .ok (.invokevirtual 298, 3) := by decide +kernel
theorem dX12_journey_21 : decode cX12_journey 21 = .ok (.aload_n 0, 1) := by decide +kernel
theorem dX12_journey_22 : decode cX12_journey 22 = .ok (.getfield 154, 3) := by decide +kernel
theorem dX12_journey_25 : decode cX12_journey 25 = .ok (.ifCond .eq 15, 3) := by decide +kernel
theorem dX12_journey_28 : decode cX12_journey 28 = .ok (.aload_n 0, 1) := by decide +kernel
theorem dX12_journey_29 : decode cX12_journey 29 = .ok (.invokevirtual 339, 3) := by decide +kernel
theorem dX12_journey_32 : decode cX12_journey 32 = .ok (.ifCond .ne (-11), 3) := by decide +kernel
theorem dX12_journey_35 : decode cX12_journey 35 = .ok (.aload_n 0, 1) := by decide +kernel
theorem dX12_journey_36 : decode cX12_journey 36 = .ok (.getfield 165, 3) := by decide +kernel
theorem dX12_journey_39 : decode cX12_journey 39 = .ok (.ireturn, 1) := by decide +kernel
theorem dX12_journey_40 : decode cX12_journey 40 = .ok (.aload_n 0, 1) := by decide +kernel
theorem dX12_journey_41 : decode cX12_journey 41 = .ok (.iconst 5, 1) := by decide +kernel
theorem dX12_journey_42 : decode cX12_journey 42 = .ok (.iconst 0, 1) := by decide +kernel
theorem dX12_journey_43 : decode cX12_journey 43 = .ok (.invokevirtual 342, 3) := by decide +kernel
theorem dX12_journey_46 : decode cX12_journey 46 = .ok (.iconst 0, 1) := by decide +kernel
theorem dX12_journey_47 : decode cX12_journey 47 = .ok (.ireturn, 1) := by decide +kernel
theorem dX12_isTown_0 : decode cX12_isTown 0 = .ok (.iload_n 1, 1) := by decide +kernel
theorem dX12_isTown_1 : decode cX12_isTown 1 = .ok (.ifCond .lt 17, 3) := by decide +kernel
theorem dX12_isTown_4 : decode cX12_isTown 4 = .ok (.iload_n 1, 1) := by decide +kernel
theorem dX12_isTown_5 : decode cX12_isTown 5 = .ok (.aload_n 0, 1) := by decide +kernel
theorem dX12_isTown_6 : decode cX12_isTown 6 = .ok (.getfield 13, 3) := by decide +kernel
theorem dX12_isTown_9 : decode cX12_isTown 9 = .ok (.iconst 0, 1) := by decide +kernel
theorem dX12_isTown_10 : decode cX12_isTown 10 = .ok (.iaload, 1) := by decide +kernel
theorem dX12_isTown_11 : decode cX12_isTown 11 = .ok (.if_icmp .ge 7, 3) := by decide +kernel
theorem dX12_isTown_14 : decode cX12_isTown 14 = .ok (.iconst 1, 1) := by decide +kernel
theorem dX12_isTown_15 : decode cX12_isTown 15 = .ok (.goto 4, 3) := by decide +kernel
theorem dX12_isTown_18 : decode cX12_isTown 18 = .ok (.iconst 0, 1) := by decide +kernel
theorem dX12_isTown_19 : decode cX12_isTown 19 = .ok (.ireturn, 1) := by decide +kernel
theorem dX12_isPerson_0 : decode cX12_isPerson 0 = .ok (.iload_n 1, 1) := by decide +kernel
theorem dX12_isPerson_1 : decode cX12_isPerson 1 = .ok (.ifCond .lt 17, 3) := by decide +kernel
theorem dX12_isPerson_4 : decode cX12_isPerson 4 = .ok (.iload_n 1, 1) := by decide +kernel
theorem dX12_isPerson_5 : decode cX12_isPerson 5 = .ok (.aload_n 0, 1) := by decide +kernel
theorem dX12_isPerson_6 : decode cX12_isPerson 6 = .ok (.getfield 13, 3) := by decide +kernel
theorem dX12_isPerson_9 : decode cX12_isPerson 9 = .ok (.iconst 1, 1) := by decide +kernel
theorem dX12_isPerson_10 : decode cX12_isPerson 10 = .ok (.iaload, 1) := by decide +kernel
theorem dX12_isPerson_11 : decode cX12_isPerson 11 = .ok (.if_icmp .ge 7, 3) := by decide +kernel
theorem dX12_isPerson_14 : decode cX12_isPerson 14 = .ok (.iconst 1, 1) := by decide +kernel
theorem dX12_isPerson_15 : decode cX12_isPerson 15 = .ok (.goto 4, 3) := by decide +kernel
theorem dX12_isPerson_18 : decode cX12_isPerson 18 = .ok (.iconst 0, 1) := by decide +kernel
theorem dX12_isPerson_19 : decode cX12_isPerson 19 = .ok (.ireturn, 1) := by decide +kernel
theorem dX12_passes_0 : decode cX12_passes 0 = .ok (.iconst 0, 1) := by decide +kernel
theorem dX12_passes_1 : decode cX12_passes 1 = .ok (.istore_n 1, 1) := by decide +kernel
theorem dX12_passes_2 : decode cX12_passes 2 = .ok (.iload_n 1, 1) := by decide +kernel
theorem dX12_passes_3 : decode cX12_passes 3 = .ok (.aload_n 0, 1) := by decide +kernel
theorem dX12_passes_4 : decode cX12_passes 4 = .ok (.getfield 13, 3) := by decide +kernel
theorem dX12_passes_7 : decode cX12_passes 7 = .ok (.iconst 1, 1) := by decide +kernel
theorem dX12_passes_8 : decode cX12_passes 8 = .ok (.iaload, 1) := by decide +kernel
theorem dX12_passes_9 : decode cX12_passes 9 = .ok (.if_icmp .ge 49, 3) := by decide +kernel
theorem dX12_passes_12 : decode cX12_passes 12 = .ok (.aload_n 0, 1) := by decide +kernel
theorem dX12_passes_13 : decode cX12_passes 13 = .ok (.getfield 29, 3) := by decide +kernel
theorem dX12_passes_16 : decode cX12_passes 16 = .ok (.iload_n 1, 1) := by decide +kernel
theorem dX12_passes_17 : decode cX12_passes 17 = .ok (.iaload, 1) := by decide +kernel
theorem dX12_passes_18 : decode cX12_passes 18 = .ok (.iconst 1, 1) := by decide +kernel
theorem dX12_passes_19 : decode cX12_passes 19 = .ok (.if_icmp .eq 33, 3) := by decide +kernel
theorem dX12_passes_22 : decode cX12_passes 22 = .ok (.aload_n 0, 1) := by decide +kernel
theorem dX12_passes_23 : decode cX12_passes 23 = .ok (.getfield 108, 3) := by decide +kernel
theorem dX12_passes_26 : decode cX12_passes 26 = .ok (.bipush 7, 2) := by decide +kernel
theorem dX12_passes_28 : decode cX12_passes 28 = .ok (.iload_n 1, 1) := by decide +kernel
theorem dX12_passes_29 : decode cX12_passes 29 = .ok (.iadd, 1) := by decide +kernel
theorem dX12_passes_30 : decode cX12_passes 30 = .ok (.bipush 60, 2) := by decide +kernel
theorem dX12_passes_32 : decode cX12_passes 32 = .ok (.aload_n 0, 1) := by decide +kernel
theorem dX12_passes_33 : decode cX12_passes 33 = .ok (.getfield 108, 3) := by decide +kernel
theorem dX12_passes_36 : decode cX12_passes 36 = .ok (.bipush 7, 2) := by decide +kernel
theorem dX12_passes_38 : decode cX12_passes 38 = .ok (.iload_n 1, 1) := by decide +kernel
theorem dX12_passes_39 : decode cX12_passes 39 = .ok (.iadd, 1) := by decide +kernel
theorem dX12_passes_40 : decode cX12_passes 40 = .ok (.iaload, 1) := by decide +kernel
theorem dX12_passes_41 : decode cX12_passes 41 = .ok (.aload_n 0, 1) := by decide +kernel
theorem dX12_passes_42 : decode cX12_passes 42 = .ok (.getfield 13, 3) := by decide +kernel
theorem dX12_passes_45 : decode cX12_passes 45 = .ok (.iconst 2, 1) := by decide +kernel
theorem dX12_passes_46 : decode cX12_passes 46 = .ok (.iaload, 1) := by decide +kernel
theorem dX12_passes_47 : decode cX12_passes 47 = .ok (.iadd, 1) := by decide +kernel
theorem dX12_passes_48 : decode cX12_passes 48 = .ok (.invokestatic 365, 3) := by decide +kernel
theorem dX12_passes_51 : decode cX12_passes 51 = .ok (.iastore, 1) := by decide +kernel
theorem dX12_passes_52 : decode cX12_passes 52 = .ok (.iinc 1 1, 3) := by decide +kernel
theorem dX12_passes_55 : decode cX12_passes 55 = .ok (.goto (-53), 3) := by decide +kernel
theorem dX12_passes_58 : decode cX12_passes 58 = .ok (.aload_n 0, 1) := by decide +kernel
theorem dX12_passes_59 : decode cX12_passes 59 = .ok (.getfield 108, 3) := by decide +kernel
theorem dX12_passes_62 : decode cX12_passes 62 = .ok (.iconst 0, 1) := by decide +kernel
theorem dX12_passes_63 : decode cX12_passes 63 = .ok (.dup2, 1) := by decide +kernel
theorem dX12_passes_64 : decode cX12_passes 64 = .ok (.iaload, 1) := by decide +kernel
theorem dX12_passes_65 : decode cX12_passes 65 = .ok (.iconst 1, 1) := by decide +kernel
theorem dX12_passes_66 : decode cX12_passes 66 = .ok (.iadd, 1) := by decide +kernel
theorem dX12_passes_67 : decode cX12_passes 67 = .ok (.iastore, 1) := by decide +kernel
theorem dX12_passes_68 : decode cX12_passes 68 = .ok (.return_, 1) := by decide +kernel
theorem dX12_allOf_0 : decode cX12_allOf 0 = .ok (.iconst 0, 1) := by decide +kernel
theorem dX12_allOf_1 : decode cX12_allOf 1 = .ok (.istore_n 2, 1) := by decide +kernel
theorem dX12_allOf_2 : decode cX12_allOf 2 = .ok (.iload_n 1, 1) := by decide +kernel
theorem dX12_allOf_3 : decode cX12_allOf 3 = .ok (.istore_n 3, 1) := by decide +kernel
theorem dX12_allOf_4 : decode cX12_allOf 4 = .ok (.iload_n 3, 1) := by decide +kernel
theorem dX12_allOf_5 : decode cX12_allOf 5 = .ok (.iload_n 1, 1) := by decide +kernel
theorem dX12_allOf_6 : decode cX12_allOf 6 = .ok (.bipush 6, 2) := by decide +kernel
theorem dX12_allOf_8 : decode cX12_allOf 8 = .ok (.iadd, 1) := by decide +kernel
theorem dX12_allOf_9 : decode cX12_allOf 9 = .ok (.if_icmp .ge 18, 3) := by decide +kernel
theorem dX12_allOf_12 : decode cX12_allOf 12 = .ok (.iload_n 2, 1) := by decide +kernel
theorem dX12_allOf_13 : decode cX12_allOf 13 = .ok (.aload_n 0, 1) := by decide +kernel
theorem dX12_allOf_14 : decode cX12_allOf 14 = .ok (.getfield 108, 3) := by decide +kernel
theorem dX12_allOf_17 : decode cX12_allOf 17 = .ok (.iload_n 3, 1) := by decide +kernel
theorem dX12_allOf_18 : decode cX12_allOf 18 = .ok (.iaload, 1) := by decide +kernel
theorem dX12_allOf_19 : decode cX12_allOf 19 = .ok (.iadd, 1) := by decide +kernel
theorem dX12_allOf_20 : decode cX12_allOf 20 = .ok (.istore_n 2, 1) := by decide +kernel
theorem dX12_allOf_21 : decode cX12_allOf 21 = .ok (.iinc 3 1, 3) := by decide +kernel
theorem dX12_allOf_24 : decode cX12_allOf 24 = .ok (.goto (-20), 3) := by decide +kernel
theorem dX12_allOf_27 : decode cX12_allOf 27 = .ok (.iload_n 2, 1) := by decide +kernel
theorem dX12_allOf_28 : decode cX12_allOf 28 = .ok (.ireturn, 1) := by decide +kernel
theorem dX12_peopled_0 : decode cX12_peopled 0 = .ok (.iconst 0, 1) := by decide +kernel
theorem dX12_peopled_1 : decode cX12_peopled 1 = .ok (.istore_n 1, 1) := by decide +kernel
theorem dX12_peopled_2 : decode cX12_peopled 2 = .ok (.iconst 0, 1) := by decide +kernel
theorem dX12_peopled_3 : decode cX12_peopled 3 = .ok (.istore_n 2, 1) := by decide +kernel
theorem dX12_peopled_4 : decode cX12_peopled 4 = .ok (.iload_n 2, 1) := by decide +kernel
theorem dX12_peopled_5 : decode cX12_peopled 5 = .ok (.aload_n 0, 1) := by decide +kernel
theorem dX12_peopled_6 : decode cX12_peopled 6 = .ok (.getfield 13, 3) := by decide +kernel
theorem dX12_peopled_9 : decode cX12_peopled 9 = .ok (.iconst 1, 1) := by decide +kernel
theorem dX12_peopled_10 : decode cX12_peopled 10 = .ok (.iaload, 1) := by decide +kernel
theorem dX12_peopled_11 : decode cX12_peopled 11 = .ok (.if_icmp .ge 22, 3) := by decide +kernel
theorem dX12_peopled_14 : decode cX12_peopled 14 = .ok (.iload_n 1, 1) := by decide +kernel
theorem dX12_peopled_15 : decode cX12_peopled 15 = .ok (.iconst 1, 1) := by decide +kernel
theorem dX12_peopled_16 : decode cX12_peopled 16 = .ok (.aload_n 0, 1) := by decide +kernel
theorem dX12_peopled_17 : decode cX12_peopled 17 = .ok (.getfield 108, 3) := by decide +kernel
theorem dX12_peopled_20 : decode cX12_peopled 20 = .ok (.iconst 1, 1) := by decide +kernel
theorem dX12_peopled_21 : decode cX12_peopled 21 = .ok (.iload_n 2, 1) := by decide +kernel
theorem dX12_peopled_22 : decode cX12_peopled 22 = .ok (.iadd, 1) := by decide +kernel
theorem dX12_peopled_23 : decode cX12_peopled 23 = .ok (.iaload, 1) := by decide +kernel
theorem dX12_peopled_24 : decode cX12_peopled 24 = .ok (.ishl, 1) := by decide +kernel
theorem dX12_peopled_25 : decode cX12_peopled 25 = .ok (.ior, 1) := by decide +kernel
theorem dX12_peopled_26 : decode cX12_peopled 26 = .ok (.istore_n 1, 1) := by decide +kernel
theorem dX12_peopled_27 : decode cX12_peopled 27 = .ok (.iinc 2 1, 3) := by decide +kernel
theorem dX12_peopled_30 : decode cX12_peopled 30 = .ok (.goto (-26), 3) := by decide +kernel
theorem dX12_peopled_33 : decode cX12_peopled 33 = .ok (.iload_n 1, 1) := by decide +kernel
theorem dX12_peopled_34 : decode cX12_peopled 34 = .ok (.ireturn, 1) := by decide +kernel
set_option maxRecDepth 20000 in
theorem ggX12_person_X12_isPerson : GoodIn wsX12_person wsX12_isPerson := goodIn_r _ [8, 9, 13, 14, 15, 16, 17, 18, 19, 20, 21, 22, 23, 24, 25, 26, 27, 28, 29, 30, 31, 32, 33, 34, 35, 36, 37, 38, 39, 40, 41, 42, 43, 44, 45, 46, 47, 48, 49, 50, 51, 52, 53, 54, 55, 56, 57, 58, 59, 60, 61, 62, 63, 64, 65, 66, 67, 68, 69] (by decide +kernel) (by decide +kernel)
set_option maxRecDepth 20000 in
theorem gX12_person_X12_isPerson : GoodIn wsX12_person (wsV RX12 370 RX12 yX12_isPerson wsX12_isPerson) := goodIn_app (goodIn_of _ (by decide +kernel)) ggX12_person_X12_isPerson
set_option maxRecDepth 20000 in
theorem ggX12_person_X12_within : GoodIn wsX12_person wsX12_within := goodIn_r _ [12] (by decide +kernel) (by decide +kernel)
set_option maxRecDepth 20000 in
theorem gX12_person_X12_within : GoodIn wsX12_person (va_wsS RX12 252 yX12_within wsX12_within) := goodIn_app (goodIn_of _ (by decide +kernel)) ggX12_person_X12_within
theorem dX12_person_0 : decode cX12_person 0 = .ok (.aload_n 0, 1) := by decide +kernel
theorem dX12_person_1 : decode cX12_person 1 = .ok (.iconst 0, 1) := by decide +kernel
theorem dX12_person_2 : decode cX12_person 2 = .ok (.putfield 129, 3) := by decide +kernel
theorem dX12_person_5 : decode cX12_person 5 = .ok (.aload_n 0, 1) := by decide +kernel
theorem dX12_person_6 : decode cX12_person 6 = .ok (.iload_n 1, 1) := by decide +kernel
theorem dX12_person_7 : decode cX12_person 7 = .ok (.invokevirtual 370, 3) := by decide +kernel
theorem dX12_person_10 : decode cX12_person 10 = .ok (.ifCond .eq 12, 3) := by decide +kernel
theorem dX12_person_13 : decode cX12_person 13 = .ok (.iload_n 2, 1) := by decide +kernel
theorem dX12_person_14 : decode cX12_person 14 = .ok (.iconst 0, 1) := by decide +kernel
theorem dX12_person_15 : decode cX12_person 15 = .ok (.iconst 5, 1) := by decide +kernel
theorem dX12_person_16 : decode cX12_person 16 = .ok (.invokestatic 252, 3) := by decide +kernel
theorem dX12_person_19 : decode cX12_person 19 = .ok (.ifCond .ne 5, 3) := by decide +kernel
theorem dX12_person_22 : decode cX12_person 22 = .ok (.iconst (-1), 1) := by decide +kernel
theorem dX12_person_23 : decode cX12_person 23 = .ok (.ireturn, 1) := by decide +kernel
theorem dX12_person_24 : decode cX12_person 24 = .ok (.iload_n 2, 1) := by decide +kernel
theorem dX12_person_25 : decode cX12_person 25 = .ok (.iconst 2, 1) := by decide +kernel
theorem dX12_person_26 : decode cX12_person 26 = .ok (.if_icmp .ge 25, 3) := by decide +kernel
theorem dX12_person_29 : decode cX12_person 29 = .ok (.iload_n 2, 1) := by decide +kernel
theorem dX12_person_30 : decode cX12_person 30 = .ok (.ifCond .ne 12, 3) := by decide +kernel
theorem dX12_person_33 : decode cX12_person 33 = .ok (.aload_n 0, 1) := by decide +kernel
theorem dX12_person_34 : decode cX12_person 34 = .ok (.getfield 29, 3) := by decide +kernel
theorem dX12_person_37 : decode cX12_person 37 = .ok (.iload_n 1, 1) := by decide +kernel
theorem dX12_person_38 : decode cX12_person 38 = .ok (.iaload, 1) := by decide +kernel
theorem dX12_person_39 : decode cX12_person 39 = .ok (.goto 11, 3) := by decide +kernel
theorem dX12_person_42 : decode cX12_person 42 = .ok (.aload_n 0, 1) := by decide +kernel
theorem dX12_person_43 : decode cX12_person 43 = .ok (.getfield 108, 3) := by decide +kernel
theorem dX12_person_46 : decode cX12_person 46 = .ok (.iconst 1, 1) := by decide +kernel
theorem dX12_person_47 : decode cX12_person 47 = .ok (.iload_n 1, 1) := by decide +kernel
theorem dX12_person_48 : decode cX12_person 48 = .ok (.iadd, 1) := by decide +kernel
theorem dX12_person_49 : decode cX12_person 49 = .ok (.iaload, 1) := by decide +kernel
theorem dX12_person_50 : decode cX12_person 50 = .ok (.ireturn, 1) := by decide +kernel
theorem dX12_person_51 : decode cX12_person 51 = .ok (.iload_n 2, 1) := by decide +kernel
theorem dX12_person_52 : decode cX12_person 52 = .ok (.iconst 4, 1) := by decide +kernel
theorem dX12_person_53 : decode cX12_person 53 = .ok (.if_icmp .ge 40, 3) := by decide +kernel
theorem dX12_person_56 : decode cX12_person 56 = .ok (.iload_n 2, 1) := by decide +kernel
theorem dX12_person_57 : decode cX12_person 57 = .ok (.iconst 2, 1) := by decide +kernel
theorem dX12_person_58 : decode cX12_person 58 = .ok (.if_icmp .ne 25, 3) := by decide +kernel
theorem dX12_person_61 : decode cX12_person 61 = .ok (.aload_n 0, 1) := by decide +kernel
theorem dX12_person_62 : decode cX12_person 62 = .ok (.getfield 108, 3) := by decide +kernel
theorem dX12_person_65 : decode cX12_person 65 = .ok (.bipush 7, 2) := by decide +kernel
theorem dX12_person_67 : decode cX12_person 67 = .ok (.iload_n 1, 1) := by decide +kernel
theorem dX12_person_68 : decode cX12_person 68 = .ok (.iadd, 1) := by decide +kernel
theorem dX12_person_69 : decode cX12_person 69 = .ok (.iaload, 1) := by decide +kernel
theorem dX12_person_70 : decode cX12_person 70 = .ok (.aload_n 0, 1) := by decide +kernel
theorem dX12_person_71 : decode cX12_person 71 = .ok (.getfield 108, 3) := by decide +kernel
theorem dX12_person_74 : decode cX12_person 74 = .ok (.bipush 13, 2) := by decide +kernel
theorem dX12_person_76 : decode cX12_person 76 = .ok (.iload_n 1, 1) := by decide +kernel
theorem dX12_person_77 : decode cX12_person 77 = .ok (.iadd, 1) := by decide +kernel
theorem dX12_person_78 : decode cX12_person 78 = .ok (.iaload, 1) := by decide +kernel
theorem dX12_person_79 : decode cX12_person 79 = .ok (.iadd, 1) := by decide +kernel
theorem dX12_person_80 : decode cX12_person 80 = .ok (.goto 12, 3) := by decide +kernel
theorem dX12_person_83 : decode cX12_person 83 = .ok (.aload_n 0, 1) := by decide +kernel
theorem dX12_person_84 : decode cX12_person 84 = .ok (.getfield 108, 3) := by decide +kernel
theorem dX12_person_87 : decode cX12_person 87 = .ok (.bipush 13, 2) := by decide +kernel
theorem dX12_person_89 : decode cX12_person 89 = .ok (.iload_n 1, 1) := by decide +kernel
theorem dX12_person_90 : decode cX12_person 90 = .ok (.iadd, 1) := by decide +kernel
theorem dX12_person_91 : decode cX12_person 91 = .ok (.iaload, 1) := by decide +kernel
theorem dX12_person_92 : decode cX12_person 92 = .ok (.ireturn, 1) := by decide +kernel
theorem dX12_person_93 : decode cX12_person 93 = .ok (.iload_n 2, 1) := by decide +kernel
theorem dX12_person_94 : decode cX12_person 94 = .ok (.iconst 4, 1) := by decide +kernel
theorem dX12_person_95 : decode cX12_person 95 = .ok (.if_icmp .ne 15, 3) := by decide +kernel
theorem dX12_person_98 : decode cX12_person 98 = .ok (.aload_n 0, 1) := by decide +kernel
theorem dX12_person_99 : decode cX12_person 99 = .ok (.getfield 108, 3) := by decide +kernel
theorem dX12_person_102 : decode cX12_person 102 = .ok (.bipush 19, 2) := by decide +kernel
theorem dX12_person_104 : decode cX12_person 104 = .ok (.iload_n 1, 1) := by decide +kernel
theorem dX12_person_105 : decode cX12_person 105 = .ok (.iadd, 1) := by decide +kernel
theorem dX12_person_106 : decode cX12_person 106 = .ok (.iaload, 1) := by decide +kernel
theorem dX12_person_107 : decode cX12_person 107 = .ok (.goto 12, 3) := by decide +kernel
theorem dX12_person_110 : decode cX12_person 110 = .ok (.aload_n 0, 1) := by decide +kernel
theorem dX12_person_111 : decode cX12_person 111 = .ok (.getfield 108, 3) := by decide +kernel
theorem dX12_person_114 : decode cX12_person 114 = .ok (.bipush 25, 2) := by decide +kernel
theorem dX12_person_116 : decode cX12_person 116 = .ok (.iload_n 1, 1) := by decide +kernel
theorem dX12_person_117 : decode cX12_person 117 = .ok (.iadd, 1) := by decide +kernel
theorem dX12_person_118 : decode cX12_person 118 = .ok (.iaload, 1) := by decide +kernel
theorem dX12_person_119 : decode cX12_person 119 = .ok (.ireturn, 1) := by decide +kernel
set_option maxRecDepth 20000 in
theorem ggX12_town_X12_isTown : GoodIn wsX12_town wsX12_isTown := goodIn_r _ [8, 9, 65, 66, 67, 68, 69, 70, 71, 72, 73, 74, 75, 76, 77, 78, 79, 80, 81, 82, 83, 84, 85, 86, 87, 88, 89, 90, 91, 92, 93, 94, 95, 96, 97, 98, 99, 100, 101, 102, 103, 104, 105, 106, 107, 108, 109, 110, 111, 112, 113, 114, 115, 116, 117, 118, 119, 120, 121] (by decide +kernel) (by decide +kernel)
set_option maxRecDepth 20000 in
theorem gX12_town_X12_isTown : GoodIn wsX12_town (wsV RX12 373 RX12 yX12_isTown wsX12_isTown) := goodIn_app (goodIn_of _ (by decide +kernel)) ggX12_town_X12_isTown
set_option maxRecDepth 20000 in
theorem ggX12_town_X12_within : GoodIn wsX12_town wsX12_within := goodIn_r _ [12] (by decide +kernel) (by decide +kernel)
set_option maxRecDepth 20000 in
theorem gX12_town_X12_within : GoodIn wsX12_town (va_wsS RX12 252 yX12_within wsX12_within) := goodIn_app (goodIn_of _ (by decide +kernel)) ggX12_town_X12_within
set_option maxRecDepth 20000 in
theorem ggX12_town_X12_letThrough : GoodIn wsX12_town wsX12_letThrough := goodIn_r _ [16, 9, 17, 18, 19, 20, 7, 21, 22, 23, 24, 25, 26, 27, 28, 29, 30, 2, 31, 32, 33, 34, 35, 36, 37, 38, 39, 40, 41, 42, 43, 44, 45, 46, 47, 48, 49, 50, 51, 52, 53, 54, 55, 56, 57, 58, 59, 60, 61, 62, 63, 64, 65, 66, 67, 68, 69, 70, 71, 72, 73, 74, 75, 76, 77, 78, 79, 80, 81, 82, 83, 84, 85, 86, 87, 88, 89, 90, 91, 92, 93, 94, 95, 96, 97, 98, 99, 100, 101, 102, 103, 104, 105, 106, 107, 108, 109, 110, 111, 112, 113, 114, 115, 116, 117, 118, 119, 120, 121] (by decide +kernel) (by decide +kernel)
set_option maxRecDepth 20000 in
theorem gX12_town_X12_letThrough : GoodIn wsX12_town (wsV RX12 376 RX12 yX12_letThrough wsX12_letThrough) := goodIn_app (goodIn_of _ (by decide +kernel)) ggX12_town_X12_letThrough
theorem dX12_town_0 : decode cX12_town 0 = .ok (.aload_n 0, 1) := by decide +kernel
theorem dX12_town_1 : decode cX12_town 1 = .ok (.iconst 0, 1) := by decide +kernel
theorem dX12_town_2 : decode cX12_town 2 = .ok (.putfield 129, 3) := by decide +kernel
theorem dX12_town_5 : decode cX12_town 5 = .ok (.aload_n 0, 1) := by decide +kernel
theorem dX12_town_6 : decode cX12_town 6 = .ok (.iload_n 1, 1) := by decide +kernel
theorem dX12_town_7 : decode cX12_town 7 = .ok (.invokevirtual 373, 3) := by decide +kernel
theorem dX12_town_10 : decode cX12_town 10 = .ok (.ifCond .eq 12, 3) := by decide +kernel
theorem dX12_town_13 : decode cX12_town 13 = .ok (.iload_n 2, 1) := by decide +kernel
theorem dX12_town_14 : decode cX12_town 14 = .ok (.iconst 0, 1) := by decide +kernel
theorem dX12_town_15 : decode cX12_town 15 = .ok (.iconst 2, 1) := by decide +kernel
theorem dX12_town_16 : decode cX12_town 16 = .ok (.invokestatic 252, 3) := by decide +kernel
theorem dX12_town_19 : decode cX12_town 19 = .ok (.ifCond .ne 5, 3) := by decide +kernel
theorem dX12_town_22 : decode cX12_town 22 = .ok (.iconst (-1), 1) := by decide +kernel
theorem dX12_town_23 : decode cX12_town 23 = .ok (.ireturn, 1) := by decide +kernel
theorem dX12_town_24 : decode cX12_town 24 = .ok (.iload_n 2, 1) := by decide +kernel
theorem dX12_town_25 : decode cX12_town 25 = .ok (.ifCond .ne 12, 3) := by decide +kernel
theorem dX12_town_28 : decode cX12_town 28 = .ok (.aload_n 0, 1) := by decide +kernel
theorem dX12_town_29 : decode cX12_town 29 = .ok (.getfield 23, 3) := by decide +kernel
theorem dX12_town_32 : decode cX12_town 32 = .ok (.iload_n 1, 1) := by decide +kernel
theorem dX12_town_33 : decode cX12_town 33 = .ok (.iaload, 1) := by decide +kernel
theorem dX12_town_34 : decode cX12_town 34 = .ok (.goto 22, 3) := by decide +kernel
theorem dX12_town_37 : decode cX12_town 37 = .ok (.iload_n 2, 1) := by decide +kernel
theorem dX12_town_38 : decode cX12_town 38 = .ok (.iconst 1, 1) := by decide +kernel
theorem dX12_town_39 : decode cX12_town 39 = .ok (.if_icmp .ne 12, 3) := by decide +kernel
theorem dX12_town_42 : decode cX12_town 42 = .ok (.aload_n 0, 1) := by decide +kernel
theorem dX12_town_43 : decode cX12_town 43 = .ok (.getfield 26, 3) := by decide +kernel
theorem dX12_town_46 : decode cX12_town 46 = .ok (.iload_n 1, 1) := by decide +kernel
theorem dX12_town_47 : decode cX12_town 47 = .ok (.iaload, 1) := by decide +kernel
theorem dX12_town_48 : decode cX12_town 48 = .ok (.goto 8, 3) := by decide +kernel
theorem dX12_town_51 : decode cX12_town 51 = .ok (.aload_n 0, 1) := by decide +kernel
theorem dX12_town_52 : decode cX12_town 52 = .ok (.iload_n 1, 1) := by decide +kernel
theorem dX12_town_53 : decode cX12_town 53 = .ok (.invokevirtual 376, 3) := by decide +kernel
theorem dX12_town_56 : decode cX12_town 56 = .ok (.ireturn, 1) := by decide +kernel
set_option maxRecDepth 20000 in
theorem ggX12_keeps_X12_copies : GoodIn wsX12_keeps wsX12_copies := goodIn_r _ [7] (by decide +kernel) (by decide +kernel)
set_option maxRecDepth 20000 in
theorem gX12_keeps_X12_copies : GoodIn wsX12_keeps (va_wsS RX12 379 yX12_copies wsX12_copies) := goodIn_app (goodIn_of _ (by decide +kernel)) ggX12_keeps_X12_copies
theorem dX12_keeps_0 : decode cX12_keeps 0 = .ok (.aload_n 0, 1) := by decide +kernel
theorem dX12_keeps_1 : decode cX12_keeps 1 = .ok (.getfield 336, 3) := by decide +kernel
theorem dX12_keeps_4 : decode cX12_keeps 4 = .ok (.bipush 16, 2) := by decide +kernel
theorem dX12_keeps_6 : decode cX12_keeps 6 = .ok (.if_icmp .ne 43, 3) := by decide +kernel
theorem dX12_keeps_9 : decode cX12_keeps 9 = .ok (.iconst 0, 1) := by decide +kernel
theorem dX12_keeps_10 : decode cX12_keeps 10 = .ok (.istore_n 1, 1) := by decide +kernel
theorem dX12_keeps_11 : decode cX12_keeps 11 = .ok (.iload_n 1, 1) := by decide +kernel
theorem dX12_keeps_12 : decode cX12_keeps 12 = .ok (.sipush 465, 3) := by decide +kernel
theorem dX12_keeps_15 : decode cX12_keeps 15 = .ok (.if_icmp .ge 24, 3) := by decide +kernel
theorem dX12_keeps_18 : decode cX12_keeps 18 = .ok (.aload_n 0, 1) := by decide +kernel
theorem dX12_keeps_19 : decode cX12_keeps 19 = .ok (.getfield 120, 3) := by decide +kernel
theorem dX12_keeps_22 : decode cX12_keeps 22 = .ok (.iload_n 1, 1) := by decide +kernel
theorem dX12_keeps_23 : decode cX12_keeps 23 = .ok (.aload_n 0, 1) := by decide +kernel
theorem dX12_keeps_24 : decode cX12_keeps 24 = .ok (.getfield 120, 3) := by decide +kernel
theorem dX12_keeps_27 : decode cX12_keeps 27 = .ok (.iload_n 1, 1) := by decide +kernel
theorem dX12_keeps_28 : decode cX12_keeps 28 = .ok (.bipush 31, 2) := by decide +kernel
theorem dX12_keeps_30 : decode cX12_keeps 30 = .ok (.iadd, 1) := by decide +kernel
theorem dX12_keeps_31 : decode cX12_keeps 31 = .ok (.iaload, 1) := by decide +kernel
theorem dX12_keeps_32 : decode cX12_keeps 32 = .ok (.iastore, 1) := by decide +kernel
theorem dX12_keeps_33 : decode cX12_keeps 33 = .ok (.iinc 1 1, 3) := by decide +kernel
theorem dX12_keeps_36 : decode cX12_keeps 36 = .ok (.goto (-25), 3) := by decide +kernel
theorem dX12_keeps_39 : decode cX12_keeps 39 = .ok (.aload_n 0, 1) := by decide +kernel
theorem dX12_keeps_40 : decode cX12_keeps 40 = .ok (.dup, 1) := by decide +kernel
theorem dX12_keeps_41 : decode cX12_keeps 41 = .ok (.getfield 336, 3) := by decide +kernel
theorem dX12_keeps_44 : decode cX12_keeps 44 = .ok (.iconst 1, 1) := by decide +kernel
theorem dX12_keeps_45 : decode cX12_keeps 45 = .ok (.isub, 1) := by decide +kernel
theorem dX12_keeps_46 : decode cX12_keeps 46 = .ok (.putfield 336, 3) := by decide +kernel
theorem dX12_keeps_49 : decode cX12_keeps 49 = .ok (.aload_n 0, 1) := by decide +kernel
theorem dX12_keeps_50 : decode cX12_keeps 50 = .ok (.getfield 108, 3) := by decide +kernel
theorem dX12_keeps_53 : decode cX12_keeps 53 = .ok (.iconst 0, 1) := by decide +kernel
theorem dX12_keeps_54 : decode cX12_keeps 54 = .ok (.aload_n 0, 1) := by decide +kernel
theorem dX12_keeps_55 : decode cX12_keeps 55 = .ok (.getfield 120, 3) := by decide +kernel
theorem dX12_keeps_58 : decode cX12_keeps 58 = .ok (.bipush 31, 2) := by decide +kernel
theorem dX12_keeps_60 : decode cX12_keeps 60 = .ok (.aload_n 0, 1) := by decide +kernel
theorem dX12_keeps_61 : decode cX12_keeps 61 = .ok (.getfield 336, 3) := by decide +kernel
theorem dX12_keeps_64 : decode cX12_keeps 64 = .ok (.imul, 1) := by decide +kernel
theorem dX12_keeps_65 : decode cX12_keeps 65 = .ok (.invokestatic 379, 3) := by decide +kernel
theorem dX12_keeps_68 : decode cX12_keeps 68 = .ok (.aload_n 0, 1) := by decide +kernel
theorem dX12_keeps_69 : decode cX12_keeps 69 = .ok (.dup, 1) := by decide +kernel
theorem dX12_keeps_70 : decode cX12_keeps 70 = .ok (.getfield 336, 3) := by decide +kernel
theorem dX12_keeps_73 : decode cX12_keeps 73 = .ok (.iconst 1, 1) := by decide +kernel
theorem dX12_keeps_74 : decode cX12_keeps 74 = .ok (.iadd, 1) := by decide +kernel
theorem dX12_keeps_75 : decode cX12_keeps 75 = .ok (.putfield 336, 3) := by decide +kernel
theorem dX12_keeps_78 : decode cX12_keeps 78 = .ok (.return_, 1) := by decide +kernel
set_option maxRecDepth 20000 in
theorem ggX12_go_X12_isPerson : GoodIn wsX12_go wsX12_isPerson := goodIn_r _ [6, 7, 79, 80, 81, 82, 83, 84, 85, 86, 87, 88, 89, 90, 91, 92, 93, 94, 95, 96, 97, 98, 99, 100, 101, 102, 103, 104, 105, 106, 107, 108, 109, 110, 111, 112, 113, 114, 115, 116, 117, 118, 119, 120, 121, 122, 123, 124, 125, 126, 127, 128, 129, 130, 131, 132, 133, 134, 135] (by decide +kernel) (by decide +kernel)
set_option maxRecDepth 20000 in
theorem gX12_go_X12_isPerson : GoodIn wsX12_go (wsV RX12 370 RX12 yX12_isPerson wsX12_isPerson) := goodIn_app (goodIn_of _ (by decide +kernel)) ggX12_go_X12_isPerson
set_option maxRecDepth 20000 in
theorem ggX12_go_X12_isTown : GoodIn wsX12_go wsX12_isTown := goodIn_r _ [11, 7, 79, 80, 81, 82, 83, 84, 85, 86, 87, 88, 89, 90, 91, 92, 93, 94, 95, 96, 97, 98, 99, 100, 101, 102, 103, 104, 105, 106, 107, 108, 109, 110, 111, 112, 113, 114, 115, 116, 117, 118, 119, 120, 121, 122, 123, 124, 125, 126, 127, 128, 129, 130, 131, 132, 133, 134, 135] (by decide +kernel) (by decide +kernel)
set_option maxRecDepth 20000 in
theorem gX12_go_X12_isTown : GoodIn wsX12_go (wsV RX12 373 RX12 yX12_isTown wsX12_isTown) := goodIn_app (goodIn_of _ (by decide +kernel)) ggX12_go_X12_isTown
set_option maxRecDepth 20000 in
theorem ggX12_go_X12_canGo : GoodIn wsX12_go wsX12_canGo := goodIn_r _ [15, 16, 17, 18, 19, 20, 5, 21, 22, 23, 24, 25, 26, 7, 27, 28, 29, 30, 31, 32, 33, 34, 35, 36, 37, 38, 39, 40, 41, 42, 43, 44, 45, 46, 47, 48, 49, 50, 51, 52, 53, 54, 55, 56, 57, 58, 59, 60, 61, 62, 63, 64, 65, 79, 80, 81, 82, 83, 84, 85, 86, 87, 88, 89, 90, 91, 92, 93, 94, 95, 96, 97, 98, 99, 100, 101, 102, 103, 104, 105, 106, 107, 108, 109, 110, 111, 112, 113, 114, 115, 116, 117, 118, 119, 120, 121, 122, 123, 124, 125, 126, 127, 128, 129, 130, 131, 132, 133, 134, 135] (by decide +kernel) (by decide +kernel)
set_option maxRecDepth 20000 in
theorem gX12_go_X12_canGo : GoodIn wsX12_go (wsV RX12 383 RX12 yX12_canGo wsX12_canGo) := goodIn_app (goodIn_of _ (by decide +kernel)) ggX12_go_X12_canGo
set_option maxRecDepth 20000 in
theorem ggX12_go_X12_keeps : GoodIn wsX12_go wsX12_keeps := goodIn_r _ [69, 70, 71, 17, 72, 73, 5, 74, 79, 80, 81, 82, 83, 84, 85, 86, 87, 88, 89, 90, 91, 92, 93, 94, 95, 96, 97, 98, 99, 100, 101, 102, 103, 104, 105, 106, 107, 108, 109, 110, 111, 112, 113, 114, 115, 116, 117, 118, 119, 120, 121, 122, 123, 124, 125, 126, 127, 128, 129, 130, 131, 132, 133, 134, 135] (by decide +kernel) (by decide +kernel)
set_option maxRecDepth 20000 in
theorem gX12_go_X12_keeps : GoodIn wsX12_go (wsV RX12 386 RX12 yX12_keeps wsX12_keeps) := goodIn_app (goodIn_of _ (by decide +kernel)) ggX12_go_X12_keeps
set_option maxRecDepth 20000 in
theorem ggX12_go_X12_goes : GoodIn wsX12_go wsX12_goes := goodIn_r _ [78, 17, 79, 80, 81, 82, 83, 84, 85, 86, 87, 88, 89, 90, 91, 92, 93, 94, 95, 96, 97, 98, 99, 100, 101, 102, 103, 104, 105, 106, 107, 108, 109, 110, 111, 112, 113, 114, 115, 116, 117, 118, 119, 120, 121, 122, 123, 124, 125, 126, 127, 128, 129, 130, 131, 132, 133, 134, 135] (by decide +kernel) (by decide +kernel)
set_option maxRecDepth 20000 in
theorem gX12_go_X12_goes : GoodIn wsX12_go (wsV RX12 389 RX12 yX12_goes wsX12_goes) := goodIn_app (goodIn_of _ (by decide +kernel)) ggX12_go_X12_goes
theorem dX12_go_0 : decode cX12_go 0 = .ok (.aload_n 0, 1) := by decide +kernel
theorem dX12_go_1 : decode cX12_go 1 = .ok (.iconst 0, 1) := by decide +kernel
theorem dX12_go_2 : decode cX12_go 2 = .ok (.putfield 129, 3) := by decide +kernel
theorem dX12_go_5 : decode cX12_go 5 = .ok (.aload_n 0, 1) := by decide +kernel
theorem dX12_go_6 : decode cX12_go 6 = .ok (.iload_n 1, 1) := by decide +kernel
theorem dX12_go_7 : decode cX12_go 7 = .ok (.invokevirtual 370, 3) := by decide +kernel
theorem dX12_go_10 : decode cX12_go 10 = .ok (.ifCond .eq 20, 3) := by decide +kernel
theorem dX12_go_13 : decode cX12_go 13 = .ok (.aload_n 0, 1) := by decide +kernel
theorem dX12_go_14 : decode cX12_go 14 = .ok (.iload_n 2, 1) := by decide +kernel
theorem dX12_go_15 : decode cX12_go 15 = .ok (.invokevirtual 373, 3) := by decide +kernel
theorem dX12_go_18 : decode cX12_go 18 = .ok (.ifCond .eq 12, 3) := by decide +kernel
theorem dX12_go_21 : decode cX12_go 21 = .ok (.aload_n 0, 1) := by decide +kernel
theorem dX12_go_22 : decode cX12_go 22 = .ok (.iload_n 1, 1) := by decide +kernel
theorem dX12_go_23 : decode cX12_go 23 = .ok (.iload_n 2, 1) := by decide +kernel
theorem dX12_go_24 : decode cX12_go 24 = .ok (.invokevirtual 383, 3) := by decide +kernel
theorem dX12_go_27 : decode cX12_go 27 = .ok (.ifCond .ne 5, 3) := by decide +kernel
theorem dX12_go_30 : decode cX12_go 30 = .ok (.iconst 0, 1) := by decide +kernel
theorem dX12_go_31 : decode cX12_go 31 = .ok (.ireturn, 1) := by decide +kernel
theorem dX12_go_32 : decode cX12_go 32 = .ok (.aload_n 0, 1) := by decide +kernel
theorem dX12_go_33 : decode cX12_go 33 = .ok (.invokevirtual 386, 3) := by decide +kernel
theorem dX12_go_36 : decode cX12_go 36 = .ok (.aload_n 0, 1) := by decide +kernel
theorem dX12_go_37 : decode cX12_go 37 = .ok (.iload_n 1, 1) := by decide +kernel
theorem dX12_go_38 : decode cX12_go 38 = .ok (.iload_n 2, 1) := by decide +kernel
theorem dX12_go_39 : decode cX12_go 39 = .ok (.invokevirtual 389, 3) := by decide +kernel
theorem dX12_go_42 : decode cX12_go 42 = .ok (.iconst 1, 1) := by decide +kernel
theorem dX12_go_43 : decode cX12_go 43 = .ok (.ireturn, 1) := by decide +kernel
set_option maxRecDepth 20000 in
theorem ggX12_forge_X12_isPerson : GoodIn wsX12_forge wsX12_isPerson := goodIn_r _ [7, 8, 30, 31, 32, 33, 34, 35, 36, 37, 38, 39, 40, 41, 42, 43, 44, 45, 46, 47, 48, 49, 50, 51, 52, 53, 54, 55, 56, 57, 58, 59, 60, 61, 62, 63, 64, 65, 66, 67, 68, 69, 70, 71, 72, 73, 74, 75, 76, 77, 78, 79, 80, 81, 82, 83, 84, 85, 86] (by decide +kernel) (by decide +kernel)
set_option maxRecDepth 20000 in
theorem gX12_forge_X12_isPerson : GoodIn wsX12_forge (wsV RX12 370 RX12 yX12_isPerson wsX12_isPerson) := goodIn_app (goodIn_of _ (by decide +kernel)) ggX12_forge_X12_isPerson
set_option maxRecDepth 20000 in
theorem ggX12_forge_X12_within : GoodIn wsX12_forge wsX12_within := goodIn_r _ [11] (by decide +kernel) (by decide +kernel)
set_option maxRecDepth 20000 in
theorem gX12_forge_X12_within : GoodIn wsX12_forge (va_wsS RX12 252 yX12_within wsX12_within) := goodIn_app (goodIn_of _ (by decide +kernel)) ggX12_forge_X12_within
set_option maxRecDepth 20000 in
theorem ggX12_forge_X12_canForge : GoodIn wsX12_forge wsX12_canForge := goodIn_r _ [15, 16, 2, 8, 30, 31, 32, 33, 34, 35, 36, 37, 38, 39, 40, 41, 42, 43, 44, 45, 46, 47, 48, 49, 50, 51, 52, 53, 54, 55, 56, 57, 58, 59, 60, 61, 62, 63, 64, 65, 66, 67, 68, 69, 70, 71, 72, 73, 74, 75, 76, 77, 78, 79, 80, 81, 82, 83, 84, 85, 86] (by decide +kernel) (by decide +kernel)
set_option maxRecDepth 20000 in
theorem gX12_forge_X12_canForge : GoodIn wsX12_forge (wsV RX12 392 RX12 yX12_canForge wsX12_canForge) := goodIn_app (goodIn_of _ (by decide +kernel)) ggX12_forge_X12_canForge
set_option maxRecDepth 20000 in
theorem ggX12_forge_X12_keeps : GoodIn wsX12_forge wsX12_keeps := goodIn_r _ [20, 21, 22, 2, 23, 24, 6, 25, 30, 31, 32, 33, 34, 35, 36, 37, 38, 39, 40, 41, 42, 43, 44, 45, 46, 47, 48, 49, 50, 51, 52, 53, 54, 55, 56, 57, 58, 59, 60, 61, 62, 63, 64, 65, 66, 67, 68, 69, 70, 71, 72, 73, 74, 75, 76, 77, 78, 79, 80, 81, 82, 83, 84, 85, 86] (by decide +kernel) (by decide +kernel)
set_option maxRecDepth 20000 in
theorem gX12_forge_X12_keeps : GoodIn wsX12_forge (wsV RX12 386 RX12 yX12_keeps wsX12_keeps) := goodIn_app (goodIn_of _ (by decide +kernel)) ggX12_forge_X12_keeps
set_option maxRecDepth 20000 in
theorem ggX12_forge_X12_forges : GoodIn wsX12_forge wsX12_forges := goodIn_r _ [29, 2, 8, 30, 31, 32, 33, 34, 35, 36, 37, 38, 39, 40, 41, 42, 43, 44, 45, 46, 47, 48, 49, 50, 51, 52, 53, 54, 55, 56, 57, 58, 59, 60, 61, 62, 63, 64, 65, 66, 67, 68, 69, 70, 71, 72, 73, 74, 75, 76, 77, 78, 79, 80, 81, 82, 83, 84, 85, 86] (by decide +kernel) (by decide +kernel)
set_option maxRecDepth 20000 in
theorem gX12_forge_X12_forges : GoodIn wsX12_forge (wsV RX12 395 RX12 yX12_forges wsX12_forges) := goodIn_app (goodIn_of _ (by decide +kernel)) ggX12_forge_X12_forges
theorem dX12_forge_0 : decode cX12_forge 0 = .ok (.aload_n 0, 1) := by decide +kernel
theorem dX12_forge_1 : decode cX12_forge 1 = .ok (.iconst 0, 1) := by decide +kernel
theorem dX12_forge_2 : decode cX12_forge 2 = .ok (.putfield 129, 3) := by decide +kernel
theorem dX12_forge_5 : decode cX12_forge 5 = .ok (.aload_n 0, 1) := by decide +kernel
theorem dX12_forge_6 : decode cX12_forge 6 = .ok (.iload_n 1, 1) := by decide +kernel
theorem dX12_forge_7 : decode cX12_forge 7 = .ok (.invokevirtual 370, 3) := by decide +kernel
theorem dX12_forge_10 : decode cX12_forge 10 = .ok (.ifCond .eq 22, 3) := by decide +kernel
theorem dX12_forge_13 : decode cX12_forge 13 = .ok (.iload_n 2, 1) := by decide +kernel
theorem dX12_forge_14 : decode cX12_forge 14 = .ok (.iconst 1, 1) := by decide +kernel
theorem dX12_forge_15 : decode cX12_forge 15 = .ok (.bipush 20, 2) := by decide +kernel
theorem dX12_forge_17 : decode cX12_forge 17 = .ok (.invokestatic 252, 3) := by decide +kernel
theorem dX12_forge_20 : decode cX12_forge 20 = .ok (.ifCond .eq 12, 3) := by decide +kernel
theorem dX12_forge_23 : decode cX12_forge 23 = .ok (.aload_n 0, 1) := by decide +kernel
theorem dX12_forge_24 : decode cX12_forge 24 = .ok (.iload_n 1, 1) := by decide +kernel
theorem dX12_forge_25 : decode cX12_forge 25 = .ok (.iload_n 2, 1) := by decide +kernel
theorem dX12_forge_26 : decode cX12_forge 26 = .ok (.invokevirtual 392, 3) := by decide +kernel
theorem dX12_forge_29 : decode cX12_forge 29 = .ok (.ifCond .ne 5, 3) := by decide +kernel
theorem dX12_forge_32 : decode cX12_forge 32 = .ok (.iconst (-1), 1) := by decide +kernel
theorem dX12_forge_33 : decode cX12_forge 33 = .ok (.ireturn, 1) := by decide +kernel
theorem dX12_forge_34 : decode cX12_forge 34 = .ok (.aload_n 0, 1) := by decide +kernel
theorem dX12_forge_35 : decode cX12_forge 35 = .ok (.invokevirtual 386, 3) := by decide +kernel
theorem dX12_forge_38 : decode cX12_forge 38 = .ok (.aload_n 0, 1) := by decide +kernel
theorem dX12_forge_39 : decode cX12_forge 39 = .ok (.iload_n 1, 1) := by decide +kernel
theorem dX12_forge_40 : decode cX12_forge 40 = .ok (.iload_n 2, 1) := by decide +kernel
theorem dX12_forge_41 : decode cX12_forge 41 = .ok (.invokevirtual 395, 3) := by decide +kernel
theorem dX12_forge_44 : decode cX12_forge 44 = .ok (.aload_n 0, 1) := by decide +kernel
theorem dX12_forge_45 : decode cX12_forge 45 = .ok (.getfield 108, 3) := by decide +kernel
theorem dX12_forge_48 : decode cX12_forge 48 = .ok (.bipush 19, 2) := by decide +kernel
theorem dX12_forge_50 : decode cX12_forge 50 = .ok (.iload_n 1, 1) := by decide +kernel
theorem dX12_forge_51 : decode cX12_forge 51 = .ok (.iadd, 1) := by decide +kernel
theorem dX12_forge_52 : decode cX12_forge 52 = .ok (.iaload, 1) := by decide +kernel
theorem dX12_forge_53 : decode cX12_forge 53 = .ok (.ireturn, 1) := by decide +kernel
set_option maxRecDepth 20000 in
theorem ggX12_shave_X12_isPerson : GoodIn wsX12_shave wsX12_isPerson := goodIn_r _ [6, 7, 22, 23, 24, 25, 26, 27, 28, 29, 30, 31, 32, 33, 34, 35, 36, 37, 38, 39, 40, 41, 42, 43, 44, 45, 46, 47, 48, 49, 50, 51, 52, 53, 54, 55, 56, 57, 58, 59, 60, 61, 62, 63, 64, 65, 66, 67, 68, 69, 70, 71, 72, 73, 74, 75, 76, 77, 78] (by decide +kernel) (by decide +kernel)
set_option maxRecDepth 20000 in
theorem gX12_shave_X12_isPerson : GoodIn wsX12_shave (wsV RX12 370 RX12 yX12_isPerson wsX12_isPerson) := goodIn_app (goodIn_of _ (by decide +kernel)) ggX12_shave_X12_isPerson
set_option maxRecDepth 20000 in
theorem ggX12_shave_X12_keeps : GoodIn wsX12_shave wsX12_keeps := goodIn_r _ [11, 12, 13, 14, 15, 16, 5, 17, 22, 23, 24, 25, 26, 27, 28, 29, 30, 31, 32, 33, 34, 35, 36, 37, 38, 39, 40, 41, 42, 43, 44, 45, 46, 47, 48, 49, 50, 51, 52, 53, 54, 55, 56, 57, 58, 59, 60, 61, 62, 63, 64, 65, 66, 67, 68, 69, 70, 71, 72, 73, 74, 75, 76, 77, 78] (by decide +kernel) (by decide +kernel)
set_option maxRecDepth 20000 in
theorem gX12_shave_X12_keeps : GoodIn wsX12_shave (wsV RX12 386 RX12 yX12_keeps wsX12_keeps) := goodIn_app (goodIn_of _ (by decide +kernel)) ggX12_shave_X12_keeps
set_option maxRecDepth 20000 in
theorem ggX12_shave_X12_shaves : GoodIn wsX12_shave wsX12_shaves := goodIn_r _ [21, 14, 22, 23, 24, 25, 26, 27, 28, 29, 30, 31, 32, 33, 34, 35, 36, 37, 38, 39, 40, 41, 42, 43, 44, 45, 46, 47, 48, 49, 50, 51, 52, 53, 54, 55, 56, 57, 58, 59, 60, 61, 62, 63, 64, 65, 66, 67, 68, 69, 70, 71, 72, 73, 74, 75, 76, 77, 78] (by decide +kernel) (by decide +kernel)
set_option maxRecDepth 20000 in
theorem gX12_shave_X12_shaves : GoodIn wsX12_shave (wsV RX12 398 RX12 yX12_shaves wsX12_shaves) := goodIn_app (goodIn_of _ (by decide +kernel)) ggX12_shave_X12_shaves
theorem dX12_shave_0 : decode cX12_shave 0 = .ok (.aload_n 0, 1) := by decide +kernel
theorem dX12_shave_1 : decode cX12_shave 1 = .ok (.iconst 0, 1) := by decide +kernel
theorem dX12_shave_2 : decode cX12_shave 2 = .ok (.putfield 129, 3) := by decide +kernel
theorem dX12_shave_5 : decode cX12_shave 5 = .ok (.aload_n 0, 1) := by decide +kernel
theorem dX12_shave_6 : decode cX12_shave 6 = .ok (.iload_n 1, 1) := by decide +kernel
theorem dX12_shave_7 : decode cX12_shave 7 = .ok (.invokevirtual 370, 3) := by decide +kernel
theorem dX12_shave_10 : decode cX12_shave 10 = .ok (.ifCond .ne 5, 3) := by decide +kernel
theorem dX12_shave_13 : decode cX12_shave 13 = .ok (.iconst 0, 1) := by decide +kernel
theorem dX12_shave_14 : decode cX12_shave 14 = .ok (.ireturn, 1) := by decide +kernel
theorem dX12_shave_15 : decode cX12_shave 15 = .ok (.aload_n 0, 1) := by decide +kernel
theorem dX12_shave_16 : decode cX12_shave 16 = .ok (.invokevirtual 386, 3) := by decide +kernel
theorem dX12_shave_19 : decode cX12_shave 19 = .ok (.aload_n 0, 1) := by decide +kernel
theorem dX12_shave_20 : decode cX12_shave 20 = .ok (.iload_n 1, 1) := by decide +kernel
theorem dX12_shave_21 : decode cX12_shave 21 = .ok (.invokevirtual 398, 3) := by decide +kernel
theorem dX12_shave_24 : decode cX12_shave 24 = .ok (.iconst 1, 1) := by decide +kernel
theorem dX12_shave_25 : decode cX12_shave 25 = .ok (.ireturn, 1) := by decide +kernel
set_option maxRecDepth 20000 in
theorem ggX12_week_X12_keeps : GoodIn wsX12_week wsX12_keeps := goodIn_r _ [7, 8, 9, 2, 10, 11, 6, 12, 23, 24, 25, 26, 27, 28, 29, 30, 31, 32, 33, 34, 35, 36, 37, 38, 39, 40, 41, 42, 43, 44, 45, 46, 47, 48, 49, 50, 51, 52, 53, 54, 55, 56, 57, 58, 59, 60, 61, 62, 63, 64, 65, 66, 67, 68, 69, 70, 71, 72, 73, 74, 75, 76, 77, 78, 79] (by decide +kernel) (by decide +kernel)
set_option maxRecDepth 20000 in
theorem gX12_week_X12_keeps : GoodIn wsX12_week (wsV RX12 386 RX12 yX12_keeps wsX12_keeps) := goodIn_app (goodIn_of _ (by decide +kernel)) ggX12_week_X12_keeps
set_option maxRecDepth 20000 in
theorem ggX12_week_X12_passes : GoodIn wsX12_week wsX12_passes := goodIn_r _ [16, 17, 18, 2, 19, 20, 21, 22, 23, 24, 25, 26, 27, 28, 29, 30, 31, 32, 33, 34, 35, 36, 37, 38, 39, 40, 41, 42, 43, 44, 45, 46, 47, 48, 49, 50, 51, 52, 53, 54, 55, 56, 57, 58, 59, 60, 61, 62, 63, 64, 65, 66, 67, 68, 69, 70, 71, 72, 73, 74, 75, 76, 77, 78, 79] (by decide +kernel) (by decide +kernel)
set_option maxRecDepth 20000 in
theorem gX12_week_X12_passes : GoodIn wsX12_week (wsV RX12 401 RX12 yX12_passes wsX12_passes) := goodIn_app (goodIn_of _ (by decide +kernel)) ggX12_week_X12_passes
theorem dX12_week_0 : decode cX12_week 0 = .ok (.aload_n 0, 1) := by decide +kernel
theorem dX12_week_1 : decode cX12_week 1 = .ok (.iconst 0, 1) := by decide +kernel
theorem dX12_week_2 : decode cX12_week 2 = .ok (.putfield 129, 3) := by decide +kernel
theorem dX12_week_5 : decode cX12_week 5 = .ok (.aload_n 0, 1) := by decide +kernel
theorem dX12_week_6 : decode cX12_week 6 = .ok (.invokevirtual 386, 3) := by decide +kernel
theorem dX12_week_9 : decode cX12_week 9 = .ok (.aload_n 0, 1) := by decide +kernel
theorem dX12_week_10 : decode cX12_week 10 = .ok (.invokevirtual 401, 3) := by decide +kernel
theorem dX12_week_13 : decode cX12_week 13 = .ok (.aload_n 0, 1) := by decide +kernel
theorem dX12_week_14 : decode cX12_week 14 = .ok (.getfield 108, 3) := by decide +kernel
theorem dX12_week_17 : decode cX12_week 17 = .ok (.iconst 0, 1) := by decide +kernel
theorem dX12_week_18 : decode cX12_week 18 = .ok (.iaload, 1) := by decide +kernel
theorem dX12_week_19 : decode cX12_week 19 = .ok (.ireturn, 1) := by decide +kernel
set_option maxRecDepth 20000 in
theorem ggX12_undo_X12_copies : GoodIn wsX12_undo wsX12_copies := goodIn_r _ [8] (by decide +kernel) (by decide +kernel)
set_option maxRecDepth 20000 in
theorem gX12_undo_X12_copies : GoodIn wsX12_undo (va_wsS RX12 379 yX12_copies wsX12_copies) := goodIn_app (goodIn_of _ (by decide +kernel)) ggX12_undo_X12_copies
theorem dX12_undo_0 : decode cX12_undo 0 = .ok (.aload_n 0, 1) := by decide +kernel
theorem dX12_undo_1 : decode cX12_undo 1 = .ok (.iconst 0, 1) := by decide +kernel
theorem dX12_undo_2 : decode cX12_undo 2 = .ok (.putfield 129, 3) := by decide +kernel
theorem dX12_undo_5 : decode cX12_undo 5 = .ok (.aload_n 0, 1) := by decide +kernel
theorem dX12_undo_6 : decode cX12_undo 6 = .ok (.getfield 336, 3) := by decide +kernel
theorem dX12_undo_9 : decode cX12_undo 9 = .ok (.ifCond .ne 5, 3) := by decide +kernel
theorem dX12_undo_12 : decode cX12_undo 12 = .ok (.iconst 0, 1) := by decide +kernel
theorem dX12_undo_13 : decode cX12_undo 13 = .ok (.ireturn, 1) := by decide +kernel
theorem dX12_undo_14 : decode cX12_undo 14 = .ok (.aload_n 0, 1) := by decide +kernel
theorem dX12_undo_15 : decode cX12_undo 15 = .ok (.dup, 1) := by decide +kernel
theorem dX12_undo_16 : decode cX12_undo 16 = .ok (.getfield 336, 3) := by decide +kernel
theorem dX12_undo_19 : decode cX12_undo 19 = .ok (.iconst 1, 1) := by decide +kernel
theorem dX12_undo_20 : decode cX12_undo 20 = .ok (.isub, 1) := by decide +kernel
theorem dX12_undo_21 : decode cX12_undo 21 = .ok (.putfield 336, 3) := by decide +kernel
theorem dX12_undo_24 : decode cX12_undo 24 = .ok (.aload_n 0, 1) := by decide +kernel
theorem dX12_undo_25 : decode cX12_undo 25 = .ok (.getfield 120, 3) := by decide +kernel
theorem dX12_undo_28 : decode cX12_undo 28 = .ok (.bipush 31, 2) := by decide +kernel
theorem dX12_undo_30 : decode cX12_undo 30 = .ok (.aload_n 0, 1) := by decide +kernel
theorem dX12_undo_31 : decode cX12_undo 31 = .ok (.getfield 336, 3) := by decide +kernel
theorem dX12_undo_34 : decode cX12_undo 34 = .ok (.imul, 1) := by decide +kernel
theorem dX12_undo_35 : decode cX12_undo 35 = .ok (.aload_n 0, 1) := by decide +kernel
theorem dX12_undo_36 : decode cX12_undo 36 = .ok (.getfield 108, 3) := by decide +kernel
theorem dX12_undo_39 : decode cX12_undo 39 = .ok (.iconst 0, 1) := by decide +kernel
theorem dX12_undo_40 : decode cX12_undo 40 = .ok (.invokestatic 379, 3) := by decide +kernel
theorem dX12_undo_43 : decode cX12_undo 43 = .ok (.iconst 1, 1) := by decide +kernel
theorem dX12_undo_44 : decode cX12_undo 44 = .ok (.ireturn, 1) := by decide +kernel
set_option maxRecDepth 20000 in
theorem ggX12_judged_X12_within : GoodIn wsX12_judged wsX12_within := goodIn_r _ [11] (by decide +kernel) (by decide +kernel)
set_option maxRecDepth 20000 in
theorem gX12_judged_X12_within : GoodIn wsX12_judged (va_wsS RX12 252 yX12_within wsX12_within) := goodIn_app (goodIn_of _ (by decide +kernel)) ggX12_judged_X12_within
set_option maxRecDepth 20000 in
theorem ggX12_judged_X12_copies : GoodIn wsX12_judged wsX12_copies := goodIn_r _ [14] (by decide +kernel) (by decide +kernel)
set_option maxRecDepth 20000 in
theorem gX12_judged_X12_copies : GoodIn wsX12_judged (va_wsS RX12 379 yX12_copies wsX12_copies) := goodIn_app (goodIn_of _ (by decide +kernel)) ggX12_judged_X12_copies
set_option maxRecDepth 20000 in
theorem ggX12_judged_X12_fresh0 : GoodIn wsX12_judged wsX12_fresh0 := goodIn_r _ [18, 2, 19, 20, 21, 22, 115, 116, 117, 118, 119, 120, 121, 122, 123, 124, 125, 126, 127, 128, 129, 130, 131, 132, 133, 134, 135, 136, 137, 138, 139, 140, 141, 142, 143, 144, 145, 146, 147, 148, 149, 150, 151, 152, 153, 154, 155, 156, 157, 158, 159, 160, 161, 162, 163, 164, 165, 166, 167, 168, 169, 170, 171] (by decide +kernel) (by decide +kernel)
set_option maxRecDepth 20000 in
theorem gX12_judged_X12_fresh0 : GoodIn wsX12_judged (wsV RX12 333 RX12 yX12_fresh0 wsX12_fresh0) := goodIn_app (goodIn_of _ (by decide +kernel)) ggX12_judged_X12_fresh0
set_option maxRecDepth 20000 in
theorem ggX12_judged_X12_allOf : GoodIn wsX12_judged wsX12_allOf := goodIn_r _ [26, 2, 115, 116, 117, 118, 119, 120, 121, 122, 123, 124, 125, 126, 127, 128, 129, 130, 131, 132, 133, 134, 135, 136, 137, 138, 139, 140, 141, 142, 143, 144, 145, 146, 147, 148, 149, 150, 151, 152, 153, 154, 155, 156, 157, 158, 159, 160, 161, 162, 163, 164, 165, 166, 167, 168, 169, 170, 171] (by decide +kernel) (by decide +kernel)
set_option maxRecDepth 20000 in
theorem gX12_judged_X12_allOf : GoodIn wsX12_judged (wsV RX12 407 RX12 yX12_allOf wsX12_allOf) := goodIn_app (goodIn_of _ (by decide +kernel)) ggX12_judged_X12_allOf
set_option maxRecDepth 20000 in
theorem ggX12_judged_X12_follows : GoodIn wsX12_judged wsX12_follows := goodIn_r _ [30, 31, 5, 7, 32, 33, 34, 10, 35, 36, 2, 37, 38, 39, 40, 41, 42, 43, 44, 45, 19, 46, 47, 48, 49, 6, 50, 51, 52, 53, 54, 55, 56, 57, 58, 59, 60, 61, 62, 63, 64, 65, 66, 67, 68, 69, 70, 71, 72, 73, 74, 75, 76, 77, 78, 79, 80, 81, 82, 83, 84, 85, 86, 87, 88, 89, 90, 91, 92, 93, 94, 95, 96, 97, 98, 99, 100, 101, 102, 103, 104, 105, 106, 107, 115, 116, 117, 118, 119, 120, 121, 122, 123, 124, 125, 126, 127, 128, 129, 130, 131, 132, 133, 134, 135, 136, 137, 138, 139, 140, 141, 142, 143, 144, 145, 146, 147, 148, 149, 150, 151, 152, 153, 154, 155, 156, 157, 158, 159, 160, 161, 162, 163, 164, 165, 166, 167, 168, 169, 170, 171] (by decide +kernel) (by decide +kernel)
set_option maxRecDepth 20000 in
theorem gX12_judged_X12_follows : GoodIn wsX12_judged (wsV RX12 410 RX12 yX12_follows wsX12_follows) := goodIn_app (goodIn_of _ (by decide +kernel)) ggX12_judged_X12_follows
set_option maxRecDepth 20000 in
theorem ggX12_judged_X12_mostAsked : GoodIn wsX12_judged wsX12_mostAsked := goodIn_r _ [111, 19, 6, 112, 113, 106, 114, 115, 116, 117, 118, 119, 120, 121, 122, 123, 124, 125, 126, 127, 128, 129, 130, 131, 132, 133, 134, 135, 136, 137, 138, 139, 140, 141, 142, 143, 144, 145, 146, 147, 148, 149, 150, 151, 152, 153, 154, 155, 156, 157, 158, 159, 160, 161, 162, 163, 164, 165, 166, 167, 168, 169, 170, 171] (by decide +kernel) (by decide +kernel)
set_option maxRecDepth 20000 in
theorem gX12_judged_X12_mostAsked : GoodIn wsX12_judged (wsV RX12 413 RX12 yX12_mostAsked wsX12_mostAsked) := goodIn_app (goodIn_of _ (by decide +kernel)) ggX12_judged_X12_mostAsked
theorem dX12_judged_0 : decode cX12_judged 0 = .ok (.aload_n 0, 1) := by decide +kernel
theorem dX12_judged_1 : decode cX12_judged 1 = .ok (.iconst 0, 1) := by decide +kernel
theorem dX12_judged_2 : decode cX12_judged 2 = .ok (.putfield 129, 3) := by decide +kernel
theorem dX12_judged_5 : decode cX12_judged 5 = .ok (.iload_n 1, 1) := by decide +kernel
theorem dX12_judged_6 : decode cX12_judged 6 = .ok (.iconst 0, 1) := by decide +kernel
theorem dX12_judged_7 : decode cX12_judged 7 = .ok (.iconst 2, 1) := by decide +kernel
theorem dX12_judged_8 : decode cX12_judged 8 = .ok (.invokestatic 252, 3) := by decide +kernel
theorem dX12_judged_11 : decode cX12_judged 11 = .ok (.ifCond .ne 6, 3) := by decide +kernel
theorem dX12_judged_14 : decode cX12_judged 14 = .ok (.bipush (-2), 2) := by decide +kernel
theorem dX12_judged_16 : decode cX12_judged 16 = .ok (.ireturn, 1) := by decide +kernel
theorem dX12_judged_17 : decode cX12_judged 17 = .ok (.aload_n 0, 1) := by decide +kernel
theorem dX12_judged_18 : decode cX12_judged 18 = .ok (.getfield 108, 3) := by decide +kernel
theorem dX12_judged_21 : decode cX12_judged 21 = .ok (.iconst 0, 1) := by decide +kernel
theorem dX12_judged_22 : decode cX12_judged 22 = .ok (.aload_n 0, 1) := by decide +kernel
theorem dX12_judged_23 : decode cX12_judged 23 = .ok (.getfield 111, 3) := by decide +kernel
theorem dX12_judged_26 : decode cX12_judged 26 = .ok (.iconst 0, 1) := by decide +kernel
theorem dX12_judged_27 : decode cX12_judged 27 = .ok (.invokestatic 379, 3) := by decide +kernel
theorem dX12_judged_30 : decode cX12_judged 30 = .ok (.aload_n 0, 1) := by decide +kernel
theorem dX12_judged_31 : decode cX12_judged 31 = .ok (.invokevirtual 333, 3) := by decide +kernel
theorem dX12_judged_34 : decode cX12_judged 34 = .ok (.aload_n 0, 1) := by decide +kernel
theorem dX12_judged_35 : decode cX12_judged 35 = .ok (.bipush 19, 2) := by decide +kernel
theorem dX12_judged_37 : decode cX12_judged 37 = .ok (.invokevirtual 407, 3) := by decide +kernel
theorem dX12_judged_40 : decode cX12_judged 40 = .ok (.istore_n 2, 1) := by decide +kernel
theorem dX12_judged_41 : decode cX12_judged 41 = .ok (.iconst (-1), 1) := by decide +kernel
theorem dX12_judged_42 : decode cX12_judged 42 = .ok (.istore_n 3, 1) := by decide +kernel
theorem dX12_judged_43 : decode cX12_judged 43 = .ok (.iconst (-1), 1) := by decide +kernel
theorem dX12_judged_44 : decode cX12_judged 44 = .ok (.istore 4, 2) := by decide +kernel
theorem dX12_judged_46 : decode cX12_judged 46 = .ok (.iconst 0, 1) := by decide +kernel
theorem dX12_judged_47 : decode cX12_judged 47 = .ok (.istore 5, 2) := by decide +kernel
theorem dX12_judged_49 : decode cX12_judged 49 = .ok (.iload 5, 2) := by decide +kernel
theorem dX12_judged_51 : decode cX12_judged 51 = .ok (.aload_n 0, 1) := by decide +kernel
theorem dX12_judged_52 : decode cX12_judged 52 = .ok (.getfield 87, 3) := by decide +kernel
theorem dX12_judged_55 : decode cX12_judged 55 = .ok (.iconst 0, 1) := by decide +kernel
theorem dX12_judged_56 : decode cX12_judged 56 = .ok (.iaload, 1) := by decide +kernel
theorem dX12_judged_57 : decode cX12_judged 57 = .ok (.if_icmp .ge 72, 3) := by decide +kernel
theorem dX12_judged_60 : decode cX12_judged 60 = .ok (.aload_n 0, 1) := by decide +kernel
theorem dX12_judged_61 : decode cX12_judged 61 = .ok (.iload 5, 2) := by decide +kernel
theorem dX12_judged_63 : decode cX12_judged 63 = .ok (.invokevirtual 410, 3) := by decide +kernel
theorem dX12_judged_66 : decode cX12_judged 66 = .ok (.istore 6, 2) := by decide +kernel
theorem dX12_judged_68 : decode cX12_judged 68 = .ok (.iload 6, 2) := by decide +kernel
theorem dX12_judged_70 : decode cX12_judged 70 = .ok (.ifCond .ne 10, 3) := by decide +kernel
theorem dX12_judged_73 : decode cX12_judged 73 = .ok (.iload_n 3, 1) := by decide +kernel
theorem dX12_judged_74 : decode cX12_judged 74 = .ok (.ifCond .ge 6, 3) := by decide +kernel
theorem dX12_judged_77 : decode cX12_judged 77 = .ok (.iload 5, 2) := by decide +kernel
theorem dX12_judged_79 : decode cX12_judged 79 = .ok (.istore_n 3, 1) := by decide +kernel
theorem dX12_judged_80 : decode cX12_judged 80 = .ok (.iload 6, 2) := by decide +kernel
theorem dX12_judged_82 : decode cX12_judged 82 = .ok (.ifCond .eq 41, 3) := by decide +kernel
theorem dX12_judged_85 : decode cX12_judged 85 = .ok (.aload_n 0, 1) := by decide +kernel
theorem dX12_judged_86 : decode cX12_judged 86 = .ok (.getfield 90, 3) := by decide +kernel
theorem dX12_judged_89 : decode cX12_judged 89 = .ok (.iload 5, 2) := by decide +kernel
theorem dX12_judged_91 : decode cX12_judged 91 = .ok (.iaload, 1) := by decide +kernel
theorem dX12_judged_92 : decode cX12_judged 92 = .ok (.ifCond .ne 31, 3) := by decide +kernel
theorem dX12_judged_95 : decode cX12_judged 95 = .ok (.iload 4, 2) := by decide +kernel
theorem dX12_judged_97 : decode cX12_judged 97 = .ok (.ifCond .ge 26, 3) := by decide +kernel
theorem dX12_judged_100 : decode cX12_judged 100 = .ok (.aload_n 0, 1) := by decide +kernel
theorem dX12_judged_101 : decode cX12_judged 101 = .ok (.getfield 23, 3) := by decide +kernel
theorem dX12_judged_104 : decode cX12_judged 104 = .ok (.aload_n 0, 1) := by decide +kernel
theorem dX12_judged_105 : decode cX12_judged 105 = .ok (.getfield 96, 3) := by decide +kernel
theorem dX12_judged_108 : decode cX12_judged 108 = .ok (.iload 5, 2) := by decide +kernel
theorem dX12_judged_110 : decode cX12_judged 110 = .ok (.iaload, 1) := by decide +kernel
theorem dX12_judged_111 : decode cX12_judged 111 = .ok (.iaload, 1) := by decide +kernel
theorem dX12_judged_112 : decode cX12_judged 112 = .ok (.aload_n 0, 1) := by decide +kernel
theorem dX12_judged_113 : decode cX12_judged 113 = .ok (.invokevirtual 413, 3) := by decide +kernel
theorem dX12_judged_116 : decode cX12_judged 116 = .ok (.if_icmp .ne 7, 3) := by decide +kernel
theorem dX12_judged_119 : decode cX12_judged 119 = .ok (.iload 5, 2) := by decide +kernel
theorem dX12_judged_121 : decode cX12_judged 121 = .ok (.istore 4, 2) := by decide +kernel
theorem dX12_judged_123 : decode cX12_judged 123 = .ok (.iinc 5 1, 3) := by decide +kernel
theorem dX12_judged_126 : decode cX12_judged 126 = .ok (.goto (-77), 3) := by decide +kernel
theorem dX12_judged_129 : decode cX12_judged 129 = .ok (.iload_n 2, 1) := by decide +kernel
theorem dX12_judged_130 : decode cX12_judged 130 = .ok (.aload_n 0, 1) := by decide +kernel
theorem dX12_judged_131 : decode cX12_judged 131 = .ok (.bipush 19, 2) := by decide +kernel
theorem dX12_judged_133 : decode cX12_judged 133 = .ok (.invokevirtual 407, 3) := by decide +kernel
theorem dX12_judged_136 : decode cX12_judged 136 = .ok (.isub, 1) := by decide +kernel
theorem dX12_judged_137 : decode cX12_judged 137 = .ok (.istore 5, 2) := by decide +kernel
theorem dX12_judged_139 : decode cX12_judged 139 = .ok (.aload_n 0, 1) := by decide +kernel
theorem dX12_judged_140 : decode cX12_judged 140 = .ok (.getfield 111, 3) := by decide +kernel
theorem dX12_judged_143 : decode cX12_judged 143 = .ok (.iconst 0, 1) := by decide +kernel
theorem dX12_judged_144 : decode cX12_judged 144 = .ok (.aload_n 0, 1) := by decide +kernel
theorem dX12_judged_145 : decode cX12_judged 145 = .ok (.getfield 108, 3) := by decide +kernel
theorem dX12_judged_148 : decode cX12_judged 148 = .ok (.iconst 0, 1) := by decide +kernel
theorem dX12_judged_149 : decode cX12_judged 149 = .ok (.invokestatic 379, 3) := by decide +kernel
theorem dX12_judged_152 : decode cX12_judged 152 = .ok (.iload_n 1, 1) := by decide +kernel
theorem dX12_judged_153 : decode cX12_judged 153 = .ok (.ifCond .ne 7, 3) := by decide +kernel
theorem dX12_judged_156 : decode cX12_judged 156 = .ok (.iload_n 3, 1) := by decide +kernel
theorem dX12_judged_157 : decode cX12_judged 157 = .ok (.goto 15, 3) := by decide +kernel
theorem dX12_judged_160 : decode cX12_judged 160 = .ok (.iload_n 1, 1) := by decide +kernel
theorem dX12_judged_161 : decode cX12_judged 161 = .ok (.iconst 1, 1) := by decide +kernel
theorem dX12_judged_162 : decode cX12_judged 162 = .ok (.if_icmp .ne 8, 3) := by decide +kernel
theorem dX12_judged_165 : decode cX12_judged 165 = .ok (.iload 4, 2) := by decide +kernel
theorem dX12_judged_167 : decode cX12_judged 167 = .ok (.goto 5, 3) := by decide +kernel
theorem dX12_judged_170 : decode cX12_judged 170 = .ok (.iload 5, 2) := by decide +kernel
theorem dX12_judged_172 : decode cX12_judged 172 = .ok (.ireturn, 1) := by decide +kernel
set_option maxRecDepth 20000 in
theorem ggX12_reach_X12_isPerson : GoodIn wsX12_reach wsX12_isPerson := goodIn_r _ [7, 8, 66, 67, 68, 69, 70, 71, 72, 73, 74, 75, 76, 77, 78, 79, 80, 81, 82, 83, 84, 85, 86, 87, 88, 89, 90, 91, 92, 93, 94, 95, 96, 97, 98, 99, 100, 101, 102, 103, 104, 105, 106, 107, 108, 109, 110, 111, 112, 113, 114, 115, 116, 117, 118, 119, 120, 121, 122] (by decide +kernel) (by decide +kernel)
set_option maxRecDepth 20000 in
theorem gX12_reach_X12_isPerson : GoodIn wsX12_reach (wsV RX12 370 RX12 yX12_isPerson wsX12_isPerson) := goodIn_app (goodIn_of _ (by decide +kernel)) ggX12_reach_X12_isPerson
set_option maxRecDepth 20000 in
theorem ggX12_reach_X12_reachFrom : GoodIn wsX12_reach wsX12_reachFrom := goodIn_r _ [12, 13, 14, 15, 6, 16, 8, 17, 18, 19, 20, 21, 22, 23, 24, 25, 26, 2, 27, 28, 29, 30, 31, 32, 33, 34, 35, 36, 37, 38, 39, 40, 41, 42, 43, 44, 45, 46, 47, 48, 49, 50, 51, 52, 53, 54, 55, 56, 57, 58, 59, 60, 61, 62, 63, 64, 65, 66, 67, 68, 69, 70, 71, 72, 73, 74, 75, 76, 77, 78, 79, 80, 81, 82, 83, 84, 85, 86, 87, 88, 89, 90, 91, 92, 93, 94, 95, 96, 97, 98, 99, 100, 101, 102, 103, 104, 105, 106, 107, 108, 109, 110, 111, 112, 113, 114, 115, 116, 117, 118, 119, 120, 121, 122] (by decide +kernel) (by decide +kernel)
set_option maxRecDepth 20000 in
theorem gX12_reach_X12_reachFrom : GoodIn wsX12_reach (wsV RX12 419 RX12 yX12_reachFrom wsX12_reachFrom) := goodIn_app (goodIn_of _ (by decide +kernel)) ggX12_reach_X12_reachFrom
theorem dX12_reach_0 : decode cX12_reach 0 = .ok (.aload_n 0, 1) := by decide +kernel
theorem dX12_reach_1 : decode cX12_reach 1 = .ok (.iconst 0, 1) := by decide +kernel
theorem dX12_reach_2 : decode cX12_reach 2 = .ok (.putfield 129, 3) := by decide +kernel
theorem dX12_reach_5 : decode cX12_reach 5 = .ok (.aload_n 0, 1) := by decide +kernel
theorem dX12_reach_6 : decode cX12_reach 6 = .ok (.iload_n 1, 1) := by decide +kernel
theorem dX12_reach_7 : decode cX12_reach 7 = .ok (.invokevirtual 370, 3) := by decide +kernel
theorem dX12_reach_10 : decode cX12_reach 10 = .ok (.ifCond .eq 21, 3) := by decide +kernel
theorem dX12_reach_13 : decode cX12_reach 13 = .ok (.aload_n 0, 1) := by decide +kernel
theorem dX12_reach_14 : decode cX12_reach 14 = .ok (.iload_n 1, 1) := by decide +kernel
theorem dX12_reach_15 : decode cX12_reach 15 = .ok (.iconst 1, 1) := by decide +kernel
theorem dX12_reach_16 : decode cX12_reach 16 = .ok (.aload_n 0, 1) := by decide +kernel
theorem dX12_reach_17 : decode cX12_reach 17 = .ok (.getfield 108, 3) := by decide +kernel
theorem dX12_reach_20 : decode cX12_reach 20 = .ok (.iconst 1, 1) := by decide +kernel
theorem dX12_reach_21 : decode cX12_reach 21 = .ok (.iload_n 1, 1) := by decide +kernel
theorem dX12_reach_22 : decode cX12_reach 22 = .ok (.iadd, 1) := by decide +kernel
theorem dX12_reach_23 : decode cX12_reach 23 = .ok (.iaload, 1) := by decide +kernel
theorem dX12_reach_24 : decode cX12_reach 24 = .ok (.ishl, 1) := by decide +kernel
theorem dX12_reach_25 : decode cX12_reach 25 = .ok (.invokevirtual 419, 3) := by decide +kernel
theorem dX12_reach_28 : decode cX12_reach 28 = .ok (.goto 4, 3) := by decide +kernel
theorem dX12_reach_31 : decode cX12_reach 31 = .ok (.iconst (-1), 1) := by decide +kernel
theorem dX12_reach_32 : decode cX12_reach 32 = .ok (.ireturn, 1) := by decide +kernel
set_option maxRecDepth 20000 in
theorem ggX12_frontiers_X12_isPerson : GoodIn wsX12_frontiers wsX12_isPerson := goodIn_r _ [7, 8, 70, 71, 72, 73, 74, 75, 76, 77, 78, 79, 80, 81, 82, 83, 84, 85, 86, 87, 88, 89, 90, 91, 92, 93, 94, 95, 96, 97, 98, 99, 100, 101, 102, 103, 104, 105, 106, 107, 108, 109, 110, 111, 112, 113, 114, 115, 116, 117, 118, 119, 120, 121, 122, 123, 124, 125, 126] (by decide +kernel) (by decide +kernel)
set_option maxRecDepth 20000 in
theorem gX12_frontiers_X12_isPerson : GoodIn wsX12_frontiers (wsV RX12 370 RX12 yX12_isPerson wsX12_isPerson) := goodIn_app (goodIn_of _ (by decide +kernel)) ggX12_frontiers_X12_isPerson
set_option maxRecDepth 20000 in
theorem ggX12_frontiers_X12_isTown : GoodIn wsX12_frontiers wsX12_isTown := goodIn_r _ [12, 8, 70, 71, 72, 73, 74, 75, 76, 77, 78, 79, 80, 81, 82, 83, 84, 85, 86, 87, 88, 89, 90, 91, 92, 93, 94, 95, 96, 97, 98, 99, 100, 101, 102, 103, 104, 105, 106, 107, 108, 109, 110, 111, 112, 113, 114, 115, 116, 117, 118, 119, 120, 121, 122, 123, 124, 125, 126] (by decide +kernel) (by decide +kernel)
set_option maxRecDepth 20000 in
theorem gX12_frontiers_X12_isTown : GoodIn wsX12_frontiers (wsV RX12 373 RX12 yX12_isTown wsX12_isTown) := goodIn_app (goodIn_of _ (by decide +kernel)) ggX12_frontiers_X12_isTown
set_option maxRecDepth 20000 in
theorem ggX12_frontiers_X12_farFrom : GoodIn wsX12_frontiers wsX12_farFrom := goodIn_r _ [16, 17, 18, 19, 6, 20, 8, 21, 22, 23, 24, 25, 26, 27, 28, 29, 30, 2, 31, 32, 33, 34, 35, 36, 37, 38, 39, 40, 41, 42, 43, 44, 45, 46, 47, 48, 49, 50, 51, 52, 53, 54, 55, 56, 57, 58, 59, 60, 61, 62, 63, 64, 65, 66, 67, 68, 69, 70, 71, 72, 73, 74, 75, 76, 77, 78, 79, 80, 81, 82, 83, 84, 85, 86, 87, 88, 89, 90, 91, 92, 93, 94, 95, 96, 97, 98, 99, 100, 101, 102, 103, 104, 105, 106, 107, 108, 109, 110, 111, 112, 113, 114, 115, 116, 117, 118, 119, 120, 121, 122, 123, 124, 125, 126] (by decide +kernel) (by decide +kernel)
set_option maxRecDepth 20000 in
theorem gX12_frontiers_X12_farFrom : GoodIn wsX12_frontiers (wsV RX12 422 RX12 yX12_farFrom wsX12_farFrom) := goodIn_app (goodIn_of _ (by decide +kernel)) ggX12_frontiers_X12_farFrom
theorem dX12_frontiers_0 : decode cX12_frontiers 0 = .ok (.aload_n 0, 1) := by decide +kernel
theorem dX12_frontiers_1 : decode cX12_frontiers 1 = .ok (.iconst 0, 1) := by decide +kernel
theorem dX12_frontiers_2 : decode cX12_frontiers 2 = .ok (.putfield 129, 3) := by decide +kernel
theorem dX12_frontiers_5 : decode cX12_frontiers 5 = .ok (.aload_n 0, 1) := by decide +kernel
theorem dX12_frontiers_6 : decode cX12_frontiers 6 = .ok (.iload_n 1, 1) := by decide +kernel
theorem dX12_frontiers_7 : decode cX12_frontiers 7 = .ok (.invokevirtual 370, 3) := by decide +kernel
theorem dX12_frontiers_10 : decode cX12_frontiers 10 = .ok (.ifCond .eq 28, 3) := by decide +kernel
theorem dX12_frontiers_13 : decode cX12_frontiers 13 = .ok (.aload_n 0, 1) := by decide +kernel
theorem dX12_frontiers_14 : decode cX12_frontiers 14 = .ok (.iload_n 2, 1) := by decide +kernel
theorem dX12_frontiers_15 : decode cX12_frontiers 15 = .ok (.invokevirtual 373, 3) := by decide +kernel
theorem dX12_frontiers_18 : decode cX12_frontiers 18 = .ok (.ifCond .eq 20, 3) := by decide +kernel
theorem dX12_frontiers_21 : decode cX12_frontiers 21 = .ok (.aload_n 0, 1) := by decide +kernel
theorem dX12_frontiers_22 : decode cX12_frontiers 22 = .ok (.iload_n 1, 1) := by decide +kernel
theorem dX12_frontiers_23 : decode cX12_frontiers 23 = .ok (.aload_n 0, 1) := by decide +kernel
theorem dX12_frontiers_24 : decode cX12_frontiers 24 = .ok (.getfield 108, 3) := by decide +kernel
theorem dX12_frontiers_27 : decode cX12_frontiers 27 = .ok (.iconst 1, 1) := by decide +kernel
theorem dX12_frontiers_28 : decode cX12_frontiers 28 = .ok (.iload_n 1, 1) := by decide +kernel
theorem dX12_frontiers_29 : decode cX12_frontiers 29 = .ok (.iadd, 1) := by decide +kernel
theorem dX12_frontiers_30 : decode cX12_frontiers 30 = .ok (.iaload, 1) := by decide +kernel
theorem dX12_frontiers_31 : decode cX12_frontiers 31 = .ok (.iload_n 2, 1) := by decide +kernel
theorem dX12_frontiers_32 : decode cX12_frontiers 32 = .ok (.invokevirtual 422, 3) := by decide +kernel
theorem dX12_frontiers_35 : decode cX12_frontiers 35 = .ok (.goto 4, 3) := by decide +kernel
theorem dX12_frontiers_38 : decode cX12_frontiers 38 = .ok (.iconst (-1), 1) := by decide +kernel
theorem dX12_frontiers_39 : decode cX12_frontiers 39 = .ok (.ireturn, 1) := by decide +kernel
set_option maxRecDepth 20000 in
theorem ggX12_guide_X12_isPerson : GoodIn wsX12_guide wsX12_isPerson := goodIn_r _ [8, 3, 74, 75, 76, 77, 78, 79, 80, 81, 82, 83, 84, 85, 86, 87, 88, 89, 90, 91, 92, 93, 94, 95, 96, 97, 98, 99, 100, 101, 102, 103, 104, 105, 106, 107, 108, 109, 110, 111, 112, 113, 114, 115, 116, 117, 118, 119, 120, 121, 122, 123, 124, 125, 126, 127, 128, 129, 130] (by decide +kernel) (by decide +kernel)
set_option maxRecDepth 20000 in
theorem gX12_guide_X12_isPerson : GoodIn wsX12_guide (wsV RX12 370 RX12 yX12_isPerson wsX12_isPerson) := goodIn_app (goodIn_of _ (by decide +kernel)) ggX12_guide_X12_isPerson
set_option maxRecDepth 20000 in
theorem ggX12_guide_X12_isTown : GoodIn wsX12_guide wsX12_isTown := goodIn_r _ [12, 3, 74, 75, 76, 77, 78, 79, 80, 81, 82, 83, 84, 85, 86, 87, 88, 89, 90, 91, 92, 93, 94, 95, 96, 97, 98, 99, 100, 101, 102, 103, 104, 105, 106, 107, 108, 109, 110, 111, 112, 113, 114, 115, 116, 117, 118, 119, 120, 121, 122, 123, 124, 125, 126, 127, 128, 129, 130] (by decide +kernel) (by decide +kernel)
set_option maxRecDepth 20000 in
theorem gX12_guide_X12_isTown : GoodIn wsX12_guide (wsV RX12 373 RX12 yX12_isTown wsX12_isTown) := goodIn_app (goodIn_of _ (by decide +kernel)) ggX12_guide_X12_isTown
set_option maxRecDepth 20000 in
theorem ggX12_guide_X12_farFrom : GoodIn wsX12_guide wsX12_farFrom := goodIn_r _ [16, 17, 18, 19, 7, 20, 3, 21, 22, 23, 24, 25, 26, 27, 28, 29, 30, 2, 31, 32, 33, 34, 35, 36, 37, 38, 39, 40, 41, 42, 43, 44, 45, 46, 47, 48, 49, 50, 51, 52, 53, 54, 55, 56, 57, 58, 59, 60, 61, 62, 63, 64, 65, 66, 67, 68, 69, 74, 75, 76, 77, 78, 79, 80, 81, 82, 83, 84, 85, 86, 87, 88, 89, 90, 91, 92, 93, 94, 95, 96, 97, 98, 99, 100, 101, 102, 103, 104, 105, 106, 107, 108, 109, 110, 111, 112, 113, 114, 115, 116, 117, 118, 119, 120, 121, 122, 123, 124, 125, 126, 127, 128, 129, 130] (by decide +kernel) (by decide +kernel)
set_option maxRecDepth 20000 in
theorem gX12_guide_X12_farFrom : GoodIn wsX12_guide (wsV RX12 422 RX12 yX12_farFrom wsX12_farFrom) := goodIn_app (goodIn_of _ (by decide +kernel)) ggX12_guide_X12_farFrom
set_option maxRecDepth 20000 in
theorem ggX12_guide_X12_canGo : GoodIn wsX12_guide wsX12_canGo := goodIn_r _ [73, 21, 2, 22, 23, 24, 7, 25, 26, 27, 28, 29, 30, 3, 31, 32, 33, 34, 35, 36, 37, 38, 39, 40, 41, 42, 43, 44, 45, 46, 47, 48, 49, 50, 51, 52, 53, 54, 55, 56, 57, 58, 59, 60, 61, 62, 63, 64, 65, 66, 67, 68, 69, 74, 75, 76, 77, 78, 79, 80, 81, 82, 83, 84, 85, 86, 87, 88, 89, 90, 91, 92, 93, 94, 95, 96, 97, 98, 99, 100, 101, 102, 103, 104, 105, 106, 107, 108, 109, 110, 111, 112, 113, 114, 115, 116, 117, 118, 119, 120, 121, 122, 123, 124, 125, 126, 127, 128, 129, 130] (by decide +kernel) (by decide +kernel)
set_option maxRecDepth 20000 in
theorem gX12_guide_X12_canGo : GoodIn wsX12_guide (wsV RX12 383 RX12 yX12_canGo wsX12_canGo) := goodIn_app (goodIn_of _ (by decide +kernel)) ggX12_guide_X12_canGo
theorem dX12_guide_0 : decode cX12_guide 0 = .ok (.aload_n 0, 1) := by decide +kernel
theorem dX12_guide_1 : decode cX12_guide 1 = .ok (.iconst 0, 1) := by decide +kernel
theorem dX12_guide_2 : decode cX12_guide 2 = .ok (.putfield 129, 3) := by decide +kernel
theorem dX12_guide_5 : decode cX12_guide 5 = .ok (.aload_n 0, 1) := by decide +kernel
theorem dX12_guide_6 : decode cX12_guide 6 = .ok (.iload_n 1, 1) := by decide +kernel
theorem dX12_guide_7 : decode cX12_guide 7 = .ok (.invokevirtual 370, 3) := by decide +kernel
theorem dX12_guide_10 : decode cX12_guide 10 = .ok (.ifCond .eq 28, 3) := by decide +kernel
theorem dX12_guide_13 : decode cX12_guide 13 = .ok (.aload_n 0, 1) := by decide +kernel
theorem dX12_guide_14 : decode cX12_guide 14 = .ok (.iload_n 2, 1) := by decide +kernel
theorem dX12_guide_15 : decode cX12_guide 15 = .ok (.invokevirtual 373, 3) := by decide +kernel
theorem dX12_guide_18 : decode cX12_guide 18 = .ok (.ifCond .eq 20, 3) := by decide +kernel
theorem dX12_guide_21 : decode cX12_guide 21 = .ok (.aload_n 0, 1) := by decide +kernel
theorem dX12_guide_22 : decode cX12_guide 22 = .ok (.iload_n 1, 1) := by decide +kernel
theorem dX12_guide_23 : decode cX12_guide 23 = .ok (.aload_n 0, 1) := by decide +kernel
theorem dX12_guide_24 : decode cX12_guide 24 = .ok (.getfield 108, 3) := by decide +kernel
theorem dX12_guide_27 : decode cX12_guide 27 = .ok (.iconst 1, 1) := by decide +kernel
theorem dX12_guide_28 : decode cX12_guide 28 = .ok (.iload_n 1, 1) := by decide +kernel
theorem dX12_guide_29 : decode cX12_guide 29 = .ok (.iadd, 1) := by decide +kernel
theorem dX12_guide_30 : decode cX12_guide 30 = .ok (.iaload, 1) := by decide +kernel
theorem dX12_guide_31 : decode cX12_guide 31 = .ok (.iload_n 2, 1) := by decide +kernel
theorem dX12_guide_32 : decode cX12_guide 32 = .ok (.invokevirtual 422, 3) := by decide +kernel
theorem dX12_guide_35 : decode cX12_guide 35 = .ok (.goto 4, 3) := by decide +kernel
theorem dX12_guide_38 : decode cX12_guide 38 = .ok (.iconst 0, 1) := by decide +kernel
theorem dX12_guide_39 : decode cX12_guide 39 = .ok (.istore_n 3, 1) := by decide +kernel
theorem dX12_guide_40 : decode cX12_guide 40 = .ok (.iload_n 3, 1) := by decide +kernel
theorem dX12_guide_41 : decode cX12_guide 41 = .ok (.ifCond .gt 5, 3) := by decide +kernel
theorem dX12_guide_44 : decode cX12_guide 44 = .ok (.iconst (-1), 1) := by decide +kernel
theorem dX12_guide_45 : decode cX12_guide 45 = .ok (.ireturn, 1) := by decide +kernel
theorem dX12_guide_46 : decode cX12_guide 46 = .ok (.iconst (-1), 1) := by decide +kernel
theorem dX12_guide_47 : decode cX12_guide 47 = .ok (.istore 4, 2) := by decide +kernel
theorem dX12_guide_49 : decode cX12_guide 49 = .ok (.aload_n 0, 1) := by decide +kernel
theorem dX12_guide_50 : decode cX12_guide 50 = .ok (.getfield 13, 3) := by decide +kernel
theorem dX12_guide_53 : decode cX12_guide 53 = .ok (.iconst 0, 1) := by decide +kernel
theorem dX12_guide_54 : decode cX12_guide 54 = .ok (.iaload, 1) := by decide +kernel
theorem dX12_guide_55 : decode cX12_guide 55 = .ok (.iconst 1, 1) := by decide +kernel
theorem dX12_guide_56 : decode cX12_guide 56 = .ok (.isub, 1) := by decide +kernel
theorem dX12_guide_57 : decode cX12_guide 57 = .ok (.istore 5, 2) := by decide +kernel
theorem dX12_guide_59 : decode cX12_guide 59 = .ok (.iload 5, 2) := by decide +kernel
theorem dX12_guide_61 : decode cX12_guide 61 = .ok (.ifCond .lt 37, 3) := by decide +kernel
theorem dX12_guide_64 : decode cX12_guide 64 = .ok (.aload_n 0, 1) := by decide +kernel
theorem dX12_guide_65 : decode cX12_guide 65 = .ok (.iload_n 1, 1) := by decide +kernel
theorem dX12_guide_66 : decode cX12_guide 66 = .ok (.iload 5, 2) := by decide +kernel
theorem dX12_guide_68 : decode cX12_guide 68 = .ok (.invokevirtual 383, 3) := by decide +kernel
theorem dX12_guide_71 : decode cX12_guide 71 = .ok (.ifCond .eq 21, 3) := by decide +kernel
theorem dX12_guide_74 : decode cX12_guide 74 = .ok (.aload_n 0, 1) := by decide +kernel
theorem dX12_guide_75 : decode cX12_guide 75 = .ok (.iload_n 1, 1) := by decide +kernel
theorem dX12_guide_76 : decode cX12_guide 76 = .ok (.iload 5, 2) := by decide +kernel
theorem dX12_guide_78 : decode cX12_guide 78 = .ok (.iload_n 2, 1) := by decide +kernel
theorem dX12_guide_79 : decode cX12_guide 79 = .ok (.invokevirtual 422, 3) := by decide +kernel
theorem dX12_guide_82 : decode cX12_guide 82 = .ok (.iload_n 3, 1) := by decide +kernel
theorem dX12_guide_83 : decode cX12_guide 83 = .ok (.iconst 1, 1) := by decide +kernel
theorem dX12_guide_84 : decode cX12_guide 84 = .ok (.isub, 1) := by decide +kernel
theorem dX12_guide_85 : decode cX12_guide 85 = .ok (.if_icmp .ne 7, 3) := by decide +kernel
theorem dX12_guide_88 : decode cX12_guide 88 = .ok (.iload 5, 2) := by decide +kernel
theorem dX12_guide_90 : decode cX12_guide 90 = .ok (.istore 4, 2) := by decide +kernel
theorem dX12_guide_92 : decode cX12_guide 92 = .ok (.iinc 5 (-1), 3) := by decide +kernel
theorem dX12_guide_95 : decode cX12_guide 95 = .ok (.goto (-36), 3) := by decide +kernel
theorem dX12_guide_98 : decode cX12_guide 98 = .ok (.iload 4, 2) := by decide +kernel
theorem dX12_guide_100 : decode cX12_guide 100 = .ok (.ireturn, 1) := by decide +kernel
set_option maxRecDepth 20000 in
theorem ggX12_trapped_X12_canGo : GoodIn wsX12_trapped wsX12_canGo := goodIn_r _ [7, 8, 9, 10, 11, 12, 6, 13, 14, 15, 16, 17, 18, 2, 19, 20, 21, 22, 23, 24, 25, 26, 27, 28, 29, 30, 31, 32, 33, 34, 35, 36, 37, 38, 39, 40, 41, 42, 43, 44, 45, 46, 47, 48, 49, 50, 51, 52, 53, 54, 55, 56, 57, 58, 59, 60, 61, 62, 63, 64, 65, 66, 67, 68, 69, 70, 71, 72, 73, 74, 75, 76, 77, 78, 79, 80, 81, 82, 83, 84, 85, 86, 87, 88, 89, 90, 91, 92, 93, 94, 95, 96, 97, 98, 99, 100, 101, 102, 103, 104, 105, 106, 107, 108, 109, 110, 111, 112, 113, 114] (by decide +kernel) (by decide +kernel)
set_option maxRecDepth 20000 in
theorem gX12_trapped_X12_canGo : GoodIn wsX12_trapped (wsV RX12 383 RX12 yX12_canGo wsX12_canGo) := goodIn_app (goodIn_of _ (by decide +kernel)) ggX12_trapped_X12_canGo
theorem dX12_trapped_0 : decode cX12_trapped 0 = .ok (.aload_n 0, 1) := by decide +kernel
theorem dX12_trapped_1 : decode cX12_trapped 1 = .ok (.iconst 0, 1) := by decide +kernel
theorem dX12_trapped_2 : decode cX12_trapped 2 = .ok (.putfield 129, 3) := by decide +kernel
theorem dX12_trapped_5 : decode cX12_trapped 5 = .ok (.iconst 0, 1) := by decide +kernel
theorem dX12_trapped_6 : decode cX12_trapped 6 = .ok (.istore_n 1, 1) := by decide +kernel
theorem dX12_trapped_7 : decode cX12_trapped 7 = .ok (.iconst 0, 1) := by decide +kernel
theorem dX12_trapped_8 : decode cX12_trapped 8 = .ok (.istore_n 2, 1) := by decide +kernel
theorem dX12_trapped_9 : decode cX12_trapped 9 = .ok (.iload_n 2, 1) := by decide +kernel
theorem dX12_trapped_10 : decode cX12_trapped 10 = .ok (.aload_n 0, 1) := by decide +kernel
theorem dX12_trapped_11 : decode cX12_trapped 11 = .ok (.getfield 13, 3) := by decide +kernel
theorem dX12_trapped_14 : decode cX12_trapped 14 = .ok (.iconst 1, 1) := by decide +kernel
theorem dX12_trapped_15 : decode cX12_trapped 15 = .ok (.iaload, 1) := by decide +kernel
theorem dX12_trapped_16 : decode cX12_trapped 16 = .ok (.if_icmp .ge 65, 3) := by decide +kernel
theorem dX12_trapped_19 : decode cX12_trapped 19 = .ok (.iconst 1, 1) := by decide +kernel
theorem dX12_trapped_20 : decode cX12_trapped 20 = .ok (.istore_n 3, 1) := by decide +kernel
theorem dX12_trapped_21 : decode cX12_trapped 21 = .ok (.iconst 0, 1) := by decide +kernel
theorem dX12_trapped_22 : decode cX12_trapped 22 = .ok (.istore 4, 2) := by decide +kernel
theorem dX12_trapped_24 : decode cX12_trapped 24 = .ok (.iload 4, 2) := by decide +kernel
theorem dX12_trapped_26 : decode cX12_trapped 26 = .ok (.aload_n 0, 1) := by decide +kernel
theorem dX12_trapped_27 : decode cX12_trapped 27 = .ok (.getfield 13, 3) := by decide +kernel
theorem dX12_trapped_30 : decode cX12_trapped 30 = .ok (.iconst 0, 1) := by decide +kernel
theorem dX12_trapped_31 : decode cX12_trapped 31 = .ok (.iaload, 1) := by decide +kernel
theorem dX12_trapped_32 : decode cX12_trapped 32 = .ok (.if_icmp .ge 29, 3) := by decide +kernel
theorem dX12_trapped_35 : decode cX12_trapped 35 = .ok (.iload_n 3, 1) := by decide +kernel
theorem dX12_trapped_36 : decode cX12_trapped 36 = .ok (.ifCond .eq 17, 3) := by decide +kernel
theorem dX12_trapped_39 : decode cX12_trapped 39 = .ok (.aload_n 0, 1) := by decide +kernel
theorem dX12_trapped_40 : decode cX12_trapped 40 = .ok (.iload_n 2, 1) := by decide +kernel
theorem dX12_trapped_41 : decode cX12_trapped 41 = .ok (.iload 4, 2) := by decide +kernel
theorem dX12_trapped_43 : decode cX12_trapped 43 = .ok (.invokevirtual 383, 3) := by decide +kernel
theorem dX12_trapped_46 : decode cX12_trapped 46 = .ok (.ifCond .ne 7, 3) := by decide +kernel
theorem dX12_trapped_49 : decode cX12_trapped 49 = .ok (.iconst 1, 1) := by decide +kernel
theorem dX12_trapped_50 : decode cX12_trapped 50 = .ok (.goto 4, 3) := by decide +kernel
theorem dX12_trapped_53 : decode cX12_trapped 53 = .ok (.iconst 0, 1) := by decide +kernel
theorem dX12_trapped_54 : decode cX12_trapped 54 = .ok (.istore_n 3, 1) := by decide +kernel
theorem dX12_trapped_55 : decode cX12_trapped 55 = .ok (.iinc 4 1, 3) := by decide +kernel
theorem dX12_trapped_58 : decode cX12_trapped 58 = .ok (.goto (-34), 3) := by decide +kernel
theorem dX12_trapped_61 : decode cX12_trapped 61 = .ok (.iload_n 1, 1) := by decide +kernel
theorem dX12_trapped_62 : decode cX12_trapped 62 = .ok (.iload_n 3, 1) := by decide +kernel
theorem dX12_trapped_63 : decode cX12_trapped 63 = .ok (.ifCond .eq 9, 3) := by decide +kernel
theorem dX12_trapped_66 : decode cX12_trapped 66 = .ok (.iconst 1, 1) := by decide +kernel
theorem dX12_trapped_67 : decode cX12_trapped 67 = .ok (.iload_n 2, 1) := by decide +kernel
theorem dX12_trapped_68 : decode cX12_trapped 68 = .ok (.ishl, 1) := by decide +kernel
theorem dX12_trapped_69 : decode cX12_trapped 69 = .ok (.goto 4, 3) := by decide +kernel
theorem dX12_trapped_72 : decode cX12_trapped 72 = .ok (.iconst 0, 1) := by decide +kernel
theorem dX12_trapped_73 : decode cX12_trapped 73 = .ok (.ior, 1) := by decide +kernel
theorem dX12_trapped_74 : decode cX12_trapped 74 = .ok (.istore_n 1, 1) := by decide +kernel
theorem dX12_trapped_75 : decode cX12_trapped 75 = .ok (.iinc 2 1, 3) := by decide +kernel
theorem dX12_trapped_78 : decode cX12_trapped 78 = .ok (.goto (-69), 3) := by decide +kernel
theorem dX12_trapped_81 : decode cX12_trapped 81 = .ok (.iload_n 1, 1) := by decide +kernel
theorem dX12_trapped_82 : decode cX12_trapped 82 = .ok (.ireturn, 1) := by decide +kernel
set_option maxRecDepth 20000 in
theorem ggX12_when_X12_isPerson : GoodIn wsX12_when wsX12_isPerson := goodIn_r _ [6, 7, 86, 87, 88, 89, 90, 91, 92, 93, 94, 95, 96, 97, 98, 99, 100, 101, 102, 103, 104, 105, 106, 107, 108, 109, 110, 111, 112, 113, 114, 115, 116, 117, 118, 119, 120, 121, 122, 123, 124, 125, 126, 127, 128, 129, 130, 131, 132, 133, 134, 135, 136, 137, 138, 139, 140, 141, 142] (by decide +kernel) (by decide +kernel)
set_option maxRecDepth 20000 in
theorem gX12_when_X12_isPerson : GoodIn wsX12_when (wsV RX12 370 RX12 yX12_isPerson wsX12_isPerson) := goodIn_app (goodIn_of _ (by decide +kernel)) ggX12_when_X12_isPerson
set_option maxRecDepth 20000 in
theorem ggX12_when_X12_isTown : GoodIn wsX12_when wsX12_isTown := goodIn_r _ [11, 7, 86, 87, 88, 89, 90, 91, 92, 93, 94, 95, 96, 97, 98, 99, 100, 101, 102, 103, 104, 105, 106, 107, 108, 109, 110, 111, 112, 113, 114, 115, 116, 117, 118, 119, 120, 121, 122, 123, 124, 125, 126, 127, 128, 129, 130, 131, 132, 133, 134, 135, 136, 137, 138, 139, 140, 141, 142] (by decide +kernel) (by decide +kernel)
set_option maxRecDepth 20000 in
theorem gX12_when_X12_isTown : GoodIn wsX12_when (wsV RX12 373 RX12 yX12_isTown wsX12_isTown) := goodIn_app (goodIn_of _ (by decide +kernel)) ggX12_when_X12_isTown
set_option maxRecDepth 20000 in
theorem ggX12_when_X12_whenAt : GoodIn wsX12_when wsX12_whenAt := goodIn_r _ [15, 16, 17, 18, 19, 5, 20, 21, 22, 23, 24, 25, 26, 27, 28, 7, 29, 30, 31, 32, 33, 34, 35, 36, 37, 38, 39, 40, 41, 42, 43, 44, 45, 46, 47, 48, 49, 50, 51, 52, 53, 54, 55, 56, 57, 58, 59, 60, 61, 62, 63, 64, 65, 66, 67, 68, 69, 70, 71, 72, 73, 74, 75, 76, 77, 78, 79, 80, 81, 82, 83, 84, 85, 86, 87, 88, 89, 90, 91, 92, 93, 94, 95, 96, 97, 98, 99, 100, 101, 102, 103, 104, 105, 106, 107, 108, 109, 110, 111, 112, 113, 114, 115, 116, 117, 118, 119, 120, 121, 122, 123, 124, 125, 126, 127, 128, 129, 130, 131, 132, 133, 134, 135, 136, 137, 138, 139, 140, 141, 142] (by decide +kernel) (by decide +kernel)
set_option maxRecDepth 20000 in
theorem gX12_when_X12_whenAt : GoodIn wsX12_when (wsV RX12 426 RX12 yX12_whenAt wsX12_whenAt) := goodIn_app (goodIn_of _ (by decide +kernel)) ggX12_when_X12_whenAt
theorem dX12_when_0 : decode cX12_when 0 = .ok (.aload_n 0, 1) := by decide +kernel
theorem dX12_when_1 : decode cX12_when 1 = .ok (.iconst 0, 1) := by decide +kernel
theorem dX12_when_2 : decode cX12_when 2 = .ok (.putfield 129, 3) := by decide +kernel
theorem dX12_when_5 : decode cX12_when 5 = .ok (.aload_n 0, 1) := by decide +kernel
theorem dX12_when_6 : decode cX12_when 6 = .ok (.iload_n 1, 1) := by decide +kernel
theorem dX12_when_7 : decode cX12_when 7 = .ok (.invokevirtual 370, 3) := by decide +kernel
theorem dX12_when_10 : decode cX12_when 10 = .ok (.ifCond .eq 20, 3) := by decide +kernel
theorem dX12_when_13 : decode cX12_when 13 = .ok (.aload_n 0, 1) := by decide +kernel
theorem dX12_when_14 : decode cX12_when 14 = .ok (.iload_n 2, 1) := by decide +kernel
theorem dX12_when_15 : decode cX12_when 15 = .ok (.invokevirtual 373, 3) := by decide +kernel
theorem dX12_when_18 : decode cX12_when 18 = .ok (.ifCond .eq 12, 3) := by decide +kernel
theorem dX12_when_21 : decode cX12_when 21 = .ok (.aload_n 0, 1) := by decide +kernel
theorem dX12_when_22 : decode cX12_when 22 = .ok (.iload_n 1, 1) := by decide +kernel
theorem dX12_when_23 : decode cX12_when 23 = .ok (.iload_n 2, 1) := by decide +kernel
theorem dX12_when_24 : decode cX12_when 24 = .ok (.invokevirtual 426, 3) := by decide +kernel
theorem dX12_when_27 : decode cX12_when 27 = .ok (.goto 4, 3) := by decide +kernel
theorem dX12_when_30 : decode cX12_when 30 = .ok (.iconst (-1), 1) := by decide +kernel
theorem dX12_when_31 : decode cX12_when 31 = .ok (.ireturn, 1) := by decide +kernel
set_option maxRecDepth 20000 in
theorem ggX12_round_X12_isPerson : GoodIn wsX12_round wsX12_isPerson := goodIn_r _ [9, 10, 75, 76, 77, 78, 79, 80, 81, 82, 83, 84, 85, 86, 87, 88, 89, 90, 91, 92, 93, 94, 95, 96, 97, 98, 99, 100, 101, 102, 103, 104, 105, 106, 107, 108, 109, 110, 111, 112, 113, 114, 115, 116, 117, 118, 119, 120, 121, 122, 123, 124, 125, 126, 127, 128, 129, 130, 131] (by decide +kernel) (by decide +kernel)
set_option maxRecDepth 20000 in
theorem gX12_round_X12_isPerson : GoodIn wsX12_round (wsV RX12 370 RX12 yX12_isPerson wsX12_isPerson) := goodIn_app (goodIn_of _ (by decide +kernel)) ggX12_round_X12_isPerson
set_option maxRecDepth 20000 in
theorem ggX12_round_X12_copies : GoodIn wsX12_round wsX12_copies := goodIn_r _ [13] (by decide +kernel) (by decide +kernel)
set_option maxRecDepth 20000 in
theorem gX12_round_X12_copies : GoodIn wsX12_round (va_wsS RX12 379 yX12_copies wsX12_copies) := goodIn_app (goodIn_of _ (by decide +kernel)) ggX12_round_X12_copies
set_option maxRecDepth 20000 in
theorem ggX12_round_X12_roams : GoodIn wsX12_round wsX12_roams := goodIn_r _ [17, 10, 4, 18, 19, 20, 21, 8, 22, 23, 24, 25, 26, 27, 2, 28, 29, 30, 31, 32, 33, 34, 35, 36, 37, 38, 39, 40, 41, 42, 43, 44, 45, 46, 47, 48, 49, 50, 51, 52, 53, 54, 55, 56, 57, 58, 59, 60, 61, 62, 63, 64, 65, 66, 75, 76, 77, 78, 79, 80, 81, 82, 83, 84, 85, 86, 87, 88, 89, 90, 91, 92, 93, 94, 95, 96, 97, 98, 99, 100, 101, 102, 103, 104, 105, 106, 107, 108, 109, 110, 111, 112, 113, 114, 115, 116, 117, 118, 119, 120, 121, 122, 123, 124, 125, 126, 127, 128, 129, 130, 131] (by decide +kernel) (by decide +kernel)
set_option maxRecDepth 20000 in
theorem gX12_round_X12_roams : GoodIn wsX12_round (wsV RX12 429 RX12 yX12_roams wsX12_roams) := goodIn_app (goodIn_of _ (by decide +kernel)) ggX12_round_X12_roams
set_option maxRecDepth 20000 in
theorem ggX12_round_X12_passes : GoodIn wsX12_round wsX12_passes := goodIn_r _ [70, 10, 23, 2, 71, 72, 73, 74, 75, 76, 77, 78, 79, 80, 81, 82, 83, 84, 85, 86, 87, 88, 89, 90, 91, 92, 93, 94, 95, 96, 97, 98, 99, 100, 101, 102, 103, 104, 105, 106, 107, 108, 109, 110, 111, 112, 113, 114, 115, 116, 117, 118, 119, 120, 121, 122, 123, 124, 125, 126, 127, 128, 129, 130, 131] (by decide +kernel) (by decide +kernel)
set_option maxRecDepth 20000 in
theorem gX12_round_X12_passes : GoodIn wsX12_round (wsV RX12 401 RX12 yX12_passes wsX12_passes) := goodIn_app (goodIn_of _ (by decide +kernel)) ggX12_round_X12_passes
theorem dX12_round_0 : decode cX12_round 0 = .ok (.aload_n 0, 1) := by decide +kernel
theorem dX12_round_1 : decode cX12_round 1 = .ok (.iconst 0, 1) := by decide +kernel
theorem dX12_round_2 : decode cX12_round 2 = .ok (.putfield 129, 3) := by decide +kernel
theorem dX12_round_5 : decode cX12_round 5 = .ok (.aload_n 0, 1) := by decide +kernel
theorem dX12_round_6 : decode cX12_round 6 = .ok (.iload_n 1, 1) := by decide +kernel
theorem dX12_round_7 : decode cX12_round 7 = .ok (.invokevirtual 370, 3) := by decide +kernel
theorem dX12_round_10 : decode cX12_round 10 = .ok (.ifCond .ne 5, 3) := by decide +kernel
theorem dX12_round_13 : decode cX12_round 13 = .ok (.iconst (-1), 1) := by decide +kernel
theorem dX12_round_14 : decode cX12_round 14 = .ok (.ireturn, 1) := by decide +kernel
theorem dX12_round_15 : decode cX12_round 15 = .ok (.aload_n 0, 1) := by decide +kernel
theorem dX12_round_16 : decode cX12_round 16 = .ok (.getfield 108, 3) := by decide +kernel
theorem dX12_round_19 : decode cX12_round 19 = .ok (.iconst 0, 1) := by decide +kernel
theorem dX12_round_20 : decode cX12_round 20 = .ok (.aload_n 0, 1) := by decide +kernel
theorem dX12_round_21 : decode cX12_round 21 = .ok (.getfield 114, 3) := by decide +kernel
theorem dX12_round_24 : decode cX12_round 24 = .ok (.iconst 0, 1) := by decide +kernel
theorem dX12_round_25 : decode cX12_round 25 = .ok (.invokestatic 379, 3) := by decide +kernel
theorem dX12_round_28 : decode cX12_round 28 = .ok (.iconst 0, 1) := by decide +kernel
theorem dX12_round_29 : decode cX12_round 29 = .ok (.istore_n 2, 1) := by decide +kernel
theorem dX12_round_30 : decode cX12_round 30 = .ok (.iload_n 2, 1) := by decide +kernel
theorem dX12_round_31 : decode cX12_round 31 = .ok (.sipush 384, 3) := by decide +kernel
theorem dX12_round_34 : decode cX12_round 34 = .ok (.if_icmp .ge 16, 3) := by decide +kernel
theorem dX12_round_37 : decode cX12_round 37 = .ok (.aload_n 0, 1) := by decide +kernel
theorem dX12_round_38 : decode cX12_round 38 = .ok (.getfield 126, 3) := by decide +kernel
theorem dX12_round_41 : decode cX12_round 41 = .ok (.iload_n 2, 1) := by decide +kernel
theorem dX12_round_42 : decode cX12_round 42 = .ok (.iconst 0, 1) := by decide +kernel
theorem dX12_round_43 : decode cX12_round 43 = .ok (.bastore, 1) := by decide +kernel
theorem dX12_round_44 : decode cX12_round 44 = .ok (.iinc 2 1, 3) := by decide +kernel
theorem dX12_round_47 : decode cX12_round 47 = .ok (.goto (-17), 3) := by decide +kernel
theorem dX12_round_50 : decode cX12_round 50 = .ok (.aload_n 0, 1) := by decide +kernel
theorem dX12_round_51 : decode cX12_round 51 = .ok (.getfield 126, 3) := by decide +kernel
theorem dX12_round_54 : decode cX12_round 54 = .ok (.bipush 64, 2) := by decide +kernel
theorem dX12_round_56 : decode cX12_round 56 = .ok (.aload_n 0, 1) := by decide +kernel
theorem dX12_round_57 : decode cX12_round 57 = .ok (.getfield 108, 3) := by decide +kernel
theorem dX12_round_60 : decode cX12_round 60 = .ok (.iconst 1, 1) := by decide +kernel
theorem dX12_round_61 : decode cX12_round 61 = .ok (.iload_n 1, 1) := by decide +kernel
theorem dX12_round_62 : decode cX12_round 62 = .ok (.iadd, 1) := by decide +kernel
theorem dX12_round_63 : decode cX12_round 63 = .ok (.iaload, 1) := by decide +kernel
theorem dX12_round_64 : decode cX12_round 64 = .ok (.imul, 1) := by decide +kernel
theorem dX12_round_65 : decode cX12_round 65 = .ok (.aload_n 0, 1) := by decide +kernel
theorem dX12_round_66 : decode cX12_round 66 = .ok (.getfield 108, 3) := by decide +kernel
theorem dX12_round_69 : decode cX12_round 69 = .ok (.bipush 25, 2) := by decide +kernel
theorem dX12_round_71 : decode cX12_round 71 = .ok (.iload_n 1, 1) := by decide +kernel
theorem dX12_round_72 : decode cX12_round 72 = .ok (.iadd, 1) := by decide +kernel
theorem dX12_round_73 : decode cX12_round 73 = .ok (.iaload, 1) := by decide +kernel
theorem dX12_round_74 : decode cX12_round 74 = .ok (.iadd, 1) := by decide +kernel
theorem dX12_round_75 : decode cX12_round 75 = .ok (.iconst 1, 1) := by decide +kernel
theorem dX12_round_76 : decode cX12_round 76 = .ok (.bastore, 1) := by decide +kernel
theorem dX12_round_77 : decode cX12_round 77 = .ok (.iconst 0, 1) := by decide +kernel
theorem dX12_round_78 : decode cX12_round 78 = .ok (.istore_n 2, 1) := by decide +kernel
theorem dX12_round_79 : decode cX12_round 79 = .ok (.iload_n 2, 1) := by decide +kernel
theorem dX12_round_80 : decode cX12_round 80 = .ok (.bipush 100, 2) := by decide +kernel
theorem dX12_round_82 : decode cX12_round 82 = .ok (.if_icmp .ge 21, 3) := by decide +kernel
theorem dX12_round_85 : decode cX12_round 85 = .ok (.aload_n 0, 1) := by decide +kernel
theorem dX12_round_86 : decode cX12_round 86 = .ok (.iload_n 1, 1) := by decide +kernel
theorem dX12_round_87 : decode cX12_round 87 = .ok (.invokevirtual 429, 3) := by decide +kernel
theorem dX12_round_90 : decode cX12_round 90 = .ok (.ifCond .ne 13, 3) := by decide +kernel
theorem dX12_round_93 : decode cX12_round 93 = .ok (.aload_n 0, 1) := by decide +kernel
theorem dX12_round_94 : decode cX12_round 94 = .ok (.invokevirtual 401, 3) := by decide +kernel
theorem dX12_round_97 : decode cX12_round 97 = .ok (.iinc 2 1, 3) := by decide +kernel
theorem dX12_round_100 : decode cX12_round 100 = .ok (.goto (-21), 3) := by decide +kernel
theorem dX12_round_103 : decode cX12_round 103 = .ok (.aload_n 0, 1) := by decide +kernel
theorem dX12_round_104 : decode cX12_round 104 = .ok (.getfield 114, 3) := by decide +kernel
theorem dX12_round_107 : decode cX12_round 107 = .ok (.iconst 0, 1) := by decide +kernel
theorem dX12_round_108 : decode cX12_round 108 = .ok (.aload_n 0, 1) := by decide +kernel
theorem dX12_round_109 : decode cX12_round 109 = .ok (.getfield 108, 3) := by decide +kernel
theorem dX12_round_112 : decode cX12_round 112 = .ok (.iconst 0, 1) := by decide +kernel
theorem dX12_round_113 : decode cX12_round 113 = .ok (.invokestatic 379, 3) := by decide +kernel
theorem dX12_round_116 : decode cX12_round 116 = .ok (.iload_n 2, 1) := by decide +kernel
theorem dX12_round_117 : decode cX12_round 117 = .ok (.bipush 99, 2) := by decide +kernel
theorem dX12_round_119 : decode cX12_round 119 = .ok (.if_icmp .le 7, 3) := by decide +kernel
theorem dX12_round_122 : decode cX12_round 122 = .ok (.iconst (-1), 1) := by decide +kernel
theorem dX12_round_123 : decode cX12_round 123 = .ok (.goto 4, 3) := by decide +kernel
theorem dX12_round_126 : decode cX12_round 126 = .ok (.iload_n 2, 1) := by decide +kernel
theorem dX12_round_127 : decode cX12_round 127 = .ok (.ireturn, 1) := by decide +kernel
set_option maxRecDepth 20000 in
theorem ggX12_need_X12_isPerson : GoodIn wsX12_need wsX12_isPerson := goodIn_r _ [6, 7, 78, 79, 80, 81, 82, 83, 84, 85, 86, 87, 88, 89, 90, 91, 92, 93, 94, 95, 96, 97, 98, 99, 100, 101, 102, 103, 104, 105, 106, 107, 108, 109, 110, 111, 112, 113, 114, 115, 116, 117, 118, 119, 120, 121, 122, 123, 124, 125, 126, 127, 128, 129, 130, 131, 132, 133, 134] (by decide +kernel) (by decide +kernel)
set_option maxRecDepth 20000 in
theorem gX12_need_X12_isPerson : GoodIn wsX12_need (wsV RX12 370 RX12 yX12_isPerson wsX12_isPerson) := goodIn_app (goodIn_of _ (by decide +kernel)) ggX12_need_X12_isPerson
set_option maxRecDepth 20000 in
theorem ggX12_need_X12_isTown : GoodIn wsX12_need wsX12_isTown := goodIn_r _ [11, 7, 78, 79, 80, 81, 82, 83, 84, 85, 86, 87, 88, 89, 90, 91, 92, 93, 94, 95, 96, 97, 98, 99, 100, 101, 102, 103, 104, 105, 106, 107, 108, 109, 110, 111, 112, 113, 114, 115, 116, 117, 118, 119, 120, 121, 122, 123, 124, 125, 126, 127, 128, 129, 130, 131, 132, 133, 134] (by decide +kernel) (by decide +kernel)
set_option maxRecDepth 20000 in
theorem gX12_need_X12_isTown : GoodIn wsX12_need (wsV RX12 373 RX12 yX12_isTown wsX12_isTown) := goodIn_app (goodIn_of _ (by decide +kernel)) ggX12_need_X12_isTown
set_option maxRecDepth 20000 in
theorem ggX12_need_X12_needOf : GoodIn wsX12_need wsX12_needOf := goodIn_r _ [15, 16, 17, 18, 19, 20, 5, 21, 22, 23, 24, 25, 26, 27, 28, 29, 7, 30, 31, 32, 33, 34, 35, 36, 37, 38, 39, 40, 41, 42, 43, 44, 45, 46, 47, 48, 49, 50, 51, 52, 53, 54, 55, 56, 57, 58, 59, 60, 61, 62, 63, 64, 65, 66, 67, 68, 69, 70, 71, 72, 73, 74, 75, 76, 77, 78, 79, 80, 81, 82, 83, 84, 85, 86, 87, 88, 89, 90, 91, 92, 93, 94, 95, 96, 97, 98, 99, 100, 101, 102, 103, 104, 105, 106, 107, 108, 109, 110, 111, 112, 113, 114, 115, 116, 117, 118, 119, 120, 121, 122, 123, 124, 125, 126, 127, 128, 129, 130, 131, 132, 133, 134] (by decide +kernel) (by decide +kernel)
set_option maxRecDepth 20000 in
theorem gX12_need_X12_needOf : GoodIn wsX12_need (wsV RX12 432 RX12 yX12_needOf wsX12_needOf) := goodIn_app (goodIn_of _ (by decide +kernel)) ggX12_need_X12_needOf
theorem dX12_need_0 : decode cX12_need 0 = .ok (.aload_n 0, 1) := by decide +kernel
theorem dX12_need_1 : decode cX12_need 1 = .ok (.iconst 0, 1) := by decide +kernel
theorem dX12_need_2 : decode cX12_need 2 = .ok (.putfield 129, 3) := by decide +kernel
theorem dX12_need_5 : decode cX12_need 5 = .ok (.aload_n 0, 1) := by decide +kernel
theorem dX12_need_6 : decode cX12_need 6 = .ok (.iload_n 1, 1) := by decide +kernel
theorem dX12_need_7 : decode cX12_need 7 = .ok (.invokevirtual 370, 3) := by decide +kernel
theorem dX12_need_10 : decode cX12_need 10 = .ok (.ifCond .eq 20, 3) := by decide +kernel
theorem dX12_need_13 : decode cX12_need 13 = .ok (.aload_n 0, 1) := by decide +kernel
theorem dX12_need_14 : decode cX12_need 14 = .ok (.iload_n 2, 1) := by decide +kernel
theorem dX12_need_15 : decode cX12_need 15 = .ok (.invokevirtual 373, 3) := by decide +kernel
theorem dX12_need_18 : decode cX12_need 18 = .ok (.ifCond .eq 12, 3) := by decide +kernel
theorem dX12_need_21 : decode cX12_need 21 = .ok (.aload_n 0, 1) := by decide +kernel
theorem dX12_need_22 : decode cX12_need 22 = .ok (.iload_n 1, 1) := by decide +kernel
theorem dX12_need_23 : decode cX12_need 23 = .ok (.iload_n 2, 1) := by decide +kernel
theorem dX12_need_24 : decode cX12_need 24 = .ok (.invokevirtual 432, 3) := by decide +kernel
theorem dX12_need_27 : decode cX12_need 27 = .ok (.goto 4, 3) := by decide +kernel
theorem dX12_need_30 : decode cX12_need 30 = .ok (.iconst (-1), 1) := by decide +kernel
theorem dX12_need_31 : decode cX12_need 31 = .ok (.ireturn, 1) := by decide +kernel
set_option maxRecDepth 20000 in
theorem ggX12_cheapest_X12_isPerson : GoodIn wsX12_cheapest wsX12_isPerson := goodIn_r _ [7, 2, 74, 75, 76, 77, 78, 79, 80, 81, 82, 83, 84, 85, 86, 87, 88, 89, 90, 91, 92, 93, 94, 95, 96, 97, 98, 99, 100, 101, 102, 103, 104, 105, 106, 107, 108, 109, 110, 111, 112, 113, 114, 115, 116, 117, 118, 119, 120, 121, 122, 123, 124, 125, 126, 127, 128, 129, 130] (by decide +kernel) (by decide +kernel)
set_option maxRecDepth 20000 in
theorem gX12_cheapest_X12_isPerson : GoodIn wsX12_cheapest (wsV RX12 370 RX12 yX12_isPerson wsX12_isPerson) := goodIn_app (goodIn_of _ (by decide +kernel)) ggX12_cheapest_X12_isPerson
set_option maxRecDepth 20000 in
theorem ggX12_cheapest_X12_needOf : GoodIn wsX12_cheapest wsX12_needOf := goodIn_r _ [11, 12, 13, 14, 15, 16, 6, 17, 18, 19, 20, 21, 22, 23, 24, 25, 2, 26, 27, 28, 29, 30, 31, 32, 33, 34, 35, 36, 37, 38, 39, 40, 41, 42, 43, 44, 45, 46, 47, 48, 49, 50, 51, 52, 53, 54, 55, 56, 57, 58, 59, 60, 61, 62, 63, 64, 65, 66, 67, 68, 69, 70, 71, 72, 73, 74, 75, 76, 77, 78, 79, 80, 81, 82, 83, 84, 85, 86, 87, 88, 89, 90, 91, 92, 93, 94, 95, 96, 97, 98, 99, 100, 101, 102, 103, 104, 105, 106, 107, 108, 109, 110, 111, 112, 113, 114, 115, 116, 117, 118, 119, 120, 121, 122, 123, 124, 125, 126, 127, 128, 129, 130] (by decide +kernel) (by decide +kernel)
set_option maxRecDepth 20000 in
theorem gX12_cheapest_X12_needOf : GoodIn wsX12_cheapest (wsV RX12 432 RX12 yX12_needOf wsX12_needOf) := goodIn_app (goodIn_of _ (by decide +kernel)) ggX12_cheapest_X12_needOf
theorem dX12_cheapest_0 : decode cX12_cheapest 0 = .ok (.aload_n 0, 1) := by decide +kernel
theorem dX12_cheapest_1 : decode cX12_cheapest 1 = .ok (.iconst 0, 1) := by decide +kernel
theorem dX12_cheapest_2 : decode cX12_cheapest 2 = .ok (.putfield 129, 3) := by decide +kernel
theorem dX12_cheapest_5 : decode cX12_cheapest 5 = .ok (.aload_n 0, 1) := by decide +kernel
theorem dX12_cheapest_6 : decode cX12_cheapest 6 = .ok (.iload_n 1, 1) := by decide +kernel
theorem dX12_cheapest_7 : decode cX12_cheapest 7 = .ok (.invokevirtual 370, 3) := by decide +kernel
theorem dX12_cheapest_10 : decode cX12_cheapest 10 = .ok (.ifCond .ne 5, 3) := by decide +kernel
theorem dX12_cheapest_13 : decode cX12_cheapest 13 = .ok (.iconst (-1), 1) := by decide +kernel
theorem dX12_cheapest_14 : decode cX12_cheapest 14 = .ok (.ireturn, 1) := by decide +kernel
theorem dX12_cheapest_15 : decode cX12_cheapest 15 = .ok (.iconst (-1), 1) := by decide +kernel
theorem dX12_cheapest_16 : decode cX12_cheapest 16 = .ok (.istore_n 2, 1) := by decide +kernel
theorem dX12_cheapest_17 : decode cX12_cheapest 17 = .ok (.iconst 0, 1) := by decide +kernel
theorem dX12_cheapest_18 : decode cX12_cheapest 18 = .ok (.istore_n 3, 1) := by decide +kernel
theorem dX12_cheapest_19 : decode cX12_cheapest 19 = .ok (.iconst 0, 1) := by decide +kernel
theorem dX12_cheapest_20 : decode cX12_cheapest 20 = .ok (.istore 4, 2) := by decide +kernel
theorem dX12_cheapest_22 : decode cX12_cheapest 22 = .ok (.iload 4, 2) := by decide +kernel
theorem dX12_cheapest_24 : decode cX12_cheapest 24 = .ok (.aload_n 0, 1) := by decide +kernel
theorem dX12_cheapest_25 : decode cX12_cheapest 25 = .ok (.getfield 13, 3) := by decide +kernel
theorem dX12_cheapest_28 : decode cX12_cheapest 28 = .ok (.iconst 0, 1) := by decide +kernel
theorem dX12_cheapest_29 : decode cX12_cheapest 29 = .ok (.iaload, 1) := by decide +kernel
theorem dX12_cheapest_30 : decode cX12_cheapest 30 = .ok (.if_icmp .ge 42, 3) := by decide +kernel
theorem dX12_cheapest_33 : decode cX12_cheapest 33 = .ok (.aload_n 0, 1) := by decide +kernel
theorem dX12_cheapest_34 : decode cX12_cheapest 34 = .ok (.iload_n 1, 1) := by decide +kernel
theorem dX12_cheapest_35 : decode cX12_cheapest 35 = .ok (.iload 4, 2) := by decide +kernel
theorem dX12_cheapest_37 : decode cX12_cheapest 37 = .ok (.invokevirtual 432, 3) := by decide +kernel
theorem dX12_cheapest_40 : decode cX12_cheapest 40 = .ok (.istore 5, 2) := by decide +kernel
theorem dX12_cheapest_42 : decode cX12_cheapest 42 = .ok (.iload 5, 2) := by decide +kernel
theorem dX12_cheapest_44 : decode cX12_cheapest 44 = .ok (.ifCond .le 22, 3) := by decide +kernel
theorem dX12_cheapest_47 : decode cX12_cheapest 47 = .ok (.iload_n 2, 1) := by decide +kernel
theorem dX12_cheapest_48 : decode cX12_cheapest 48 = .ok (.ifCond .lt 12, 3) := by decide +kernel
theorem dX12_cheapest_51 : decode cX12_cheapest 51 = .ok (.iload 5, 2) := by decide +kernel
theorem dX12_cheapest_53 : decode cX12_cheapest 53 = .ok (.iload_n 3, 1) := by decide +kernel
theorem dX12_cheapest_54 : decode cX12_cheapest 54 = .ok (.if_icmp .lt 6, 3) := by decide +kernel
theorem dX12_cheapest_57 : decode cX12_cheapest 57 = .ok (.goto 9, 3) := by decide +kernel
theorem dX12_cheapest_60 : decode cX12_cheapest 60 = .ok (.iload 4, 2) := by decide +kernel
theorem dX12_cheapest_62 : decode cX12_cheapest 62 = .ok (.istore_n 2, 1) := by decide +kernel
theorem dX12_cheapest_63 : decode cX12_cheapest 63 = .ok (.iload 5, 2) := by decide +kernel
theorem dX12_cheapest_65 : decode cX12_cheapest 65 = .ok (.istore_n 3, 1) := by decide +kernel
theorem dX12_cheapest_66 : decode cX12_cheapest 66 = .ok (.iinc 4 1, 3) := by decide +kernel
theorem dX12_cheapest_69 : decode cX12_cheapest 69 = .ok (.goto (-47), 3) := by decide +kernel
theorem dX12_cheapest_72 : decode cX12_cheapest 72 = .ok (.iload_n 2, 1) := by decide +kernel
theorem dX12_cheapest_73 : decode cX12_cheapest 73 = .ok (.ireturn, 1) := by decide +kernel
set_option maxRecDepth 20000 in
theorem ggX12_debt_X12_isPerson : GoodIn wsX12_debt wsX12_isPerson := goodIn_r _ [12, 2, 82, 83, 84, 85, 86, 87, 88, 89, 90, 91, 92, 93, 94, 95, 96, 97, 98, 99, 100, 101, 102, 103, 104, 105, 106, 107, 108, 109, 110, 111, 112, 113, 114, 115, 116, 117, 118, 119, 120, 121, 122, 123, 124, 125, 126, 127, 128, 129, 130, 131, 132, 133, 134, 135, 136, 137, 138] (by decide +kernel) (by decide +kernel)
set_option maxRecDepth 20000 in
theorem gX12_debt_X12_isPerson : GoodIn wsX12_debt (wsV RX12 370 RX12 yX12_isPerson wsX12_isPerson) := goodIn_app (goodIn_of _ (by decide +kernel)) ggX12_debt_X12_isPerson
set_option maxRecDepth 20000 in
theorem ggX12_debt_X12_isTown : GoodIn wsX12_debt wsX12_isTown := goodIn_r _ [16, 2, 82, 83, 84, 85, 86, 87, 88, 89, 90, 91, 92, 93, 94, 95, 96, 97, 98, 99, 100, 101, 102, 103, 104, 105, 106, 107, 108, 109, 110, 111, 112, 113, 114, 115, 116, 117, 118, 119, 120, 121, 122, 123, 124, 125, 126, 127, 128, 129, 130, 131, 132, 133, 134, 135, 136, 137, 138] (by decide +kernel) (by decide +kernel)
set_option maxRecDepth 20000 in
theorem gX12_debt_X12_isTown : GoodIn wsX12_debt (wsV RX12 373 RX12 yX12_isTown wsX12_isTown) := goodIn_app (goodIn_of _ (by decide +kernel)) ggX12_debt_X12_isTown
set_option maxRecDepth 20000 in
theorem ggX12_debt_X12_needOf : GoodIn wsX12_debt wsX12_needOf := goodIn_r _ [20, 3, 21, 22, 23, 24, 11, 25, 26, 27, 28, 29, 30, 31, 32, 33, 2, 34, 35, 36, 37, 38, 39, 40, 41, 42, 43, 44, 45, 46, 47, 48, 49, 50, 51, 52, 53, 54, 55, 56, 57, 58, 59, 60, 61, 62, 63, 64, 65, 66, 67, 68, 69, 70, 71, 72, 73, 74, 75, 76, 77, 78, 79, 80, 81, 82, 83, 84, 85, 86, 87, 88, 89, 90, 91, 92, 93, 94, 95, 96, 97, 98, 99, 100, 101, 102, 103, 104, 105, 106, 107, 108, 109, 110, 111, 112, 113, 114, 115, 116, 117, 118, 119, 120, 121, 122, 123, 124, 125, 126, 127, 128, 129, 130, 131, 132, 133, 134, 135, 136, 137, 138] (by decide +kernel) (by decide +kernel)
set_option maxRecDepth 20000 in
theorem gX12_debt_X12_needOf : GoodIn wsX12_debt (wsV RX12 432 RX12 yX12_needOf wsX12_needOf) := goodIn_app (goodIn_of _ (by decide +kernel)) ggX12_debt_X12_needOf
theorem dX12_debt_0 : decode cX12_debt 0 = .ok (.aload_n 0, 1) := by decide +kernel
theorem dX12_debt_1 : decode cX12_debt 1 = .ok (.iconst 0, 1) := by decide +kernel
theorem dX12_debt_2 : decode cX12_debt 2 = .ok (.putfield 129, 3) := by decide +kernel
theorem dX12_debt_5 : decode cX12_debt 5 = .ok (.aload_n 0, 1) := by decide +kernel
theorem dX12_debt_6 : decode cX12_debt 6 = .ok (.iload_n 1, 1) := by decide +kernel
theorem dX12_debt_7 : decode cX12_debt 7 = .ok (.invokevirtual 370, 3) := by decide +kernel
theorem dX12_debt_10 : decode cX12_debt 10 = .ok (.ifCond .eq 20, 3) := by decide +kernel
theorem dX12_debt_13 : decode cX12_debt 13 = .ok (.aload_n 0, 1) := by decide +kernel
theorem dX12_debt_14 : decode cX12_debt 14 = .ok (.iload_n 2, 1) := by decide +kernel
theorem dX12_debt_15 : decode cX12_debt 15 = .ok (.invokevirtual 373, 3) := by decide +kernel
theorem dX12_debt_18 : decode cX12_debt 18 = .ok (.ifCond .eq 12, 3) := by decide +kernel
theorem dX12_debt_21 : decode cX12_debt 21 = .ok (.aload_n 0, 1) := by decide +kernel
theorem dX12_debt_22 : decode cX12_debt 22 = .ok (.iload_n 1, 1) := by decide +kernel
theorem dX12_debt_23 : decode cX12_debt 23 = .ok (.iload_n 2, 1) := by decide +kernel
theorem dX12_debt_24 : decode cX12_debt 24 = .ok (.invokevirtual 432, 3) := by decide +kernel
theorem dX12_debt_27 : decode cX12_debt 27 = .ok (.goto 4, 3) := by decide +kernel
theorem dX12_debt_30 : decode cX12_debt 30 = .ok (.iconst (-1), 1) := by decide +kernel
theorem dX12_debt_31 : decode cX12_debt 31 = .ok (.istore_n 3, 1) := by decide +kernel
theorem dX12_debt_32 : decode cX12_debt 32 = .ok (.iload_n 3, 1) := by decide +kernel
theorem dX12_debt_33 : decode cX12_debt 33 = .ok (.ifCond .ge 7, 3) := by decide +kernel
theorem dX12_debt_36 : decode cX12_debt 36 = .ok (.iconst (-1), 1) := by decide +kernel
theorem dX12_debt_37 : decode cX12_debt 37 = .ok (.goto 25, 3) := by decide +kernel
theorem dX12_debt_40 : decode cX12_debt 40 = .ok (.iconst 0, 1) := by decide +kernel
theorem dX12_debt_41 : decode cX12_debt 41 = .ok (.iload_n 3, 1) := by decide +kernel
theorem dX12_debt_42 : decode cX12_debt 42 = .ok (.aload_n 0, 1) := by decide +kernel
theorem dX12_debt_43 : decode cX12_debt 43 = .ok (.getfield 13, 3) := by decide +kernel
theorem dX12_debt_46 : decode cX12_debt 46 = .ok (.iconst 3, 1) := by decide +kernel
theorem dX12_debt_47 : decode cX12_debt 47 = .ok (.iaload, 1) := by decide +kernel
theorem dX12_debt_48 : decode cX12_debt 48 = .ok (.imul, 1) := by decide +kernel
theorem dX12_debt_49 : decode cX12_debt 49 = .ok (.aload_n 0, 1) := by decide +kernel
theorem dX12_debt_50 : decode cX12_debt 50 = .ok (.getfield 108, 3) := by decide +kernel
theorem dX12_debt_53 : decode cX12_debt 53 = .ok (.bipush 19, 2) := by decide +kernel
theorem dX12_debt_55 : decode cX12_debt 55 = .ok (.iload_n 1, 1) := by decide +kernel
theorem dX12_debt_56 : decode cX12_debt 56 = .ok (.iadd, 1) := by decide +kernel
theorem dX12_debt_57 : decode cX12_debt 57 = .ok (.iaload, 1) := by decide +kernel
theorem dX12_debt_58 : decode cX12_debt 58 = .ok (.isub, 1) := by decide +kernel
theorem dX12_debt_59 : decode cX12_debt 59 = .ok (.invokestatic 404, 3) := by decide +kernel
theorem dX12_debt_62 : decode cX12_debt 62 = .ok (.ireturn, 1) := by decide +kernel
set_option maxRecDepth 20000 in
theorem ggX12_shaven_X12_isPerson : GoodIn wsX12_shaven wsX12_isPerson := goodIn_r _ [8, 9, 74, 75, 76, 77, 78, 79, 80, 81, 82, 83, 84, 85, 86, 87, 88, 89, 90, 91, 92, 93, 94, 95, 96, 97, 98, 99, 100, 101, 102, 103, 104, 105, 106, 107, 108, 109, 110, 111, 112, 113, 114, 115, 116, 117, 118, 119, 120, 121, 122, 123, 124, 125, 126, 127, 128, 129, 130] (by decide +kernel) (by decide +kernel)
set_option maxRecDepth 20000 in
theorem gX12_shaven_X12_isPerson : GoodIn wsX12_shaven (wsV RX12 370 RX12 yX12_isPerson wsX12_isPerson) := goodIn_app (goodIn_of _ (by decide +kernel)) ggX12_shaven_X12_isPerson
set_option maxRecDepth 20000 in
theorem ggX12_shaven_X12_copies : GoodIn wsX12_shaven wsX12_copies := goodIn_r _ [12] (by decide +kernel) (by decide +kernel)
set_option maxRecDepth 20000 in
theorem gX12_shaven_X12_copies : GoodIn wsX12_shaven (va_wsS RX12 379 yX12_copies wsX12_copies) := goodIn_app (goodIn_of _ (by decide +kernel)) ggX12_shaven_X12_copies
set_option maxRecDepth 20000 in
theorem ggX12_shaven_X12_shaves : GoodIn wsX12_shaven wsX12_shaves := goodIn_r _ [16, 2, 74, 75, 76, 77, 78, 79, 80, 81, 82, 83, 84, 85, 86, 87, 88, 89, 90, 91, 92, 93, 94, 95, 96, 97, 98, 99, 100, 101, 102, 103, 104, 105, 106, 107, 108, 109, 110, 111, 112, 113, 114, 115, 116, 117, 118, 119, 120, 121, 122, 123, 124, 125, 126, 127, 128, 129, 130] (by decide +kernel) (by decide +kernel)
set_option maxRecDepth 20000 in
theorem gX12_shaven_X12_shaves : GoodIn wsX12_shaven (wsV RX12 398 RX12 yX12_shaves wsX12_shaves) := goodIn_app (goodIn_of _ (by decide +kernel)) ggX12_shaven_X12_shaves
set_option maxRecDepth 20000 in
theorem ggX12_shaven_X12_reachFrom : GoodIn wsX12_shaven wsX12_reachFrom := goodIn_r _ [20, 21, 22, 23, 7, 24, 9, 25, 26, 27, 28, 29, 30, 31, 32, 33, 34, 2, 35, 36, 37, 38, 39, 40, 41, 42, 43, 44, 45, 46, 47, 48, 49, 50, 51, 52, 53, 54, 55, 56, 57, 58, 59, 60, 61, 62, 63, 64, 65, 66, 67, 68, 69, 70, 71, 72, 73, 74, 75, 76, 77, 78, 79, 80, 81, 82, 83, 84, 85, 86, 87, 88, 89, 90, 91, 92, 93, 94, 95, 96, 97, 98, 99, 100, 101, 102, 103, 104, 105, 106, 107, 108, 109, 110, 111, 112, 113, 114, 115, 116, 117, 118, 119, 120, 121, 122, 123, 124, 125, 126, 127, 128, 129, 130] (by decide +kernel) (by decide +kernel)
set_option maxRecDepth 20000 in
theorem gX12_shaven_X12_reachFrom : GoodIn wsX12_shaven (wsV RX12 419 RX12 yX12_reachFrom wsX12_reachFrom) := goodIn_app (goodIn_of _ (by decide +kernel)) ggX12_shaven_X12_reachFrom
theorem dX12_shaven_0 : decode cX12_shaven 0 = .ok (.aload_n 0, 1) := by decide +kernel
theorem dX12_shaven_1 : decode cX12_shaven 1 = .ok (.iconst 0, 1) := by decide +kernel
theorem dX12_shaven_2 : decode cX12_shaven 2 = .ok (.putfield 129, 3) := by decide +kernel
theorem dX12_shaven_5 : decode cX12_shaven 5 = .ok (.aload_n 0, 1) := by decide +kernel
theorem dX12_shaven_6 : decode cX12_shaven 6 = .ok (.iload_n 1, 1) := by decide +kernel
theorem dX12_shaven_7 : decode cX12_shaven 7 = .ok (.invokevirtual 370, 3) := by decide +kernel
theorem dX12_shaven_10 : decode cX12_shaven 10 = .ok (.ifCond .ne 5, 3) := by decide +kernel
theorem dX12_shaven_13 : decode cX12_shaven 13 = .ok (.iconst (-1), 1) := by decide +kernel
theorem dX12_shaven_14 : decode cX12_shaven 14 = .ok (.ireturn, 1) := by decide +kernel
theorem dX12_shaven_15 : decode cX12_shaven 15 = .ok (.aload_n 0, 1) := by decide +kernel
theorem dX12_shaven_16 : decode cX12_shaven 16 = .ok (.getfield 108, 3) := by decide +kernel
theorem dX12_shaven_19 : decode cX12_shaven 19 = .ok (.iconst 0, 1) := by decide +kernel
theorem dX12_shaven_20 : decode cX12_shaven 20 = .ok (.aload_n 0, 1) := by decide +kernel
theorem dX12_shaven_21 : decode cX12_shaven 21 = .ok (.getfield 114, 3) := by decide +kernel
theorem dX12_shaven_24 : decode cX12_shaven 24 = .ok (.iconst 0, 1) := by decide +kernel
theorem dX12_shaven_25 : decode cX12_shaven 25 = .ok (.invokestatic 379, 3) := by decide +kernel
theorem dX12_shaven_28 : decode cX12_shaven 28 = .ok (.aload_n 0, 1) := by decide +kernel
theorem dX12_shaven_29 : decode cX12_shaven 29 = .ok (.iload_n 1, 1) := by decide +kernel
theorem dX12_shaven_30 : decode cX12_shaven 30 = .ok (.invokevirtual 398, 3) := by decide +kernel
theorem dX12_shaven_33 : decode cX12_shaven 33 = .ok (.aload_n 0, 1) := by decide +kernel
theorem dX12_shaven_34 : decode cX12_shaven 34 = .ok (.iload_n 1, 1) := by decide +kernel
theorem dX12_shaven_35 : decode cX12_shaven 35 = .ok (.iconst 1, 1) := by decide +kernel
theorem dX12_shaven_36 : decode cX12_shaven 36 = .ok (.aload_n 0, 1) := by decide +kernel
theorem dX12_shaven_37 : decode cX12_shaven 37 = .ok (.getfield 108, 3) := by decide +kernel
theorem dX12_shaven_40 : decode cX12_shaven 40 = .ok (.iconst 1, 1) := by decide +kernel
theorem dX12_shaven_41 : decode cX12_shaven 41 = .ok (.iload_n 1, 1) := by decide +kernel
theorem dX12_shaven_42 : decode cX12_shaven 42 = .ok (.iadd, 1) := by decide +kernel
theorem dX12_shaven_43 : decode cX12_shaven 43 = .ok (.iaload, 1) := by decide +kernel
theorem dX12_shaven_44 : decode cX12_shaven 44 = .ok (.ishl, 1) := by decide +kernel
theorem dX12_shaven_45 : decode cX12_shaven 45 = .ok (.invokevirtual 419, 3) := by decide +kernel
theorem dX12_shaven_48 : decode cX12_shaven 48 = .ok (.istore_n 2, 1) := by decide +kernel
theorem dX12_shaven_49 : decode cX12_shaven 49 = .ok (.aload_n 0, 1) := by decide +kernel
theorem dX12_shaven_50 : decode cX12_shaven 50 = .ok (.getfield 114, 3) := by decide +kernel
theorem dX12_shaven_53 : decode cX12_shaven 53 = .ok (.iconst 0, 1) := by decide +kernel
theorem dX12_shaven_54 : decode cX12_shaven 54 = .ok (.aload_n 0, 1) := by decide +kernel
theorem dX12_shaven_55 : decode cX12_shaven 55 = .ok (.getfield 108, 3) := by decide +kernel
theorem dX12_shaven_58 : decode cX12_shaven 58 = .ok (.iconst 0, 1) := by decide +kernel
theorem dX12_shaven_59 : decode cX12_shaven 59 = .ok (.invokestatic 379, 3) := by decide +kernel
theorem dX12_shaven_62 : decode cX12_shaven 62 = .ok (.iload_n 2, 1) := by decide +kernel
theorem dX12_shaven_63 : decode cX12_shaven 63 = .ok (.ireturn, 1) := by decide +kernel
set_option maxRecDepth 20000 in
theorem ggX12_meeting_X12_within : GoodIn wsX12_meeting wsX12_within := goodIn_r _ [6] (by decide +kernel) (by decide +kernel)
set_option maxRecDepth 20000 in
theorem gX12_meeting_X12_within : GoodIn wsX12_meeting (va_wsS RX12 252 yX12_within wsX12_within) := goodIn_app (goodIn_of _ (by decide +kernel)) ggX12_meeting_X12_within
set_option maxRecDepth 20000 in
theorem ggX12_meeting_X12_meetsAt : GoodIn wsX12_meeting wsX12_meetsAt := goodIn_r _ [10, 2, 11, 12, 13, 14, 15, 16, 17, 5, 18, 19, 20, 21, 22, 23, 24, 25, 26, 27, 28, 29, 30, 31, 32, 33, 34, 35, 36, 37, 38, 39, 40, 41, 42, 43, 44, 45, 46, 47, 48, 49, 50, 51, 52, 53, 54, 55, 56, 57, 58, 59, 60, 61, 62, 63, 64, 65, 66, 67, 68, 69, 70, 71, 72, 73, 74, 75, 76, 77, 78, 79, 80, 81, 82, 83, 84, 85, 86, 87, 88, 89, 90, 91, 92, 93, 94, 95, 96, 97, 98, 99, 100, 101, 102, 103, 104, 105, 106, 107, 108, 109, 110, 111, 112, 113, 114, 115, 116, 117, 118, 119, 120, 121, 122, 123, 124, 125, 126, 127, 128, 129, 130, 131, 132, 133, 134, 135, 136, 137, 138, 139, 140, 141, 142, 143, 144] (by decide +kernel) (by decide +kernel)
set_option maxRecDepth 20000 in
theorem gX12_meeting_X12_meetsAt : GoodIn wsX12_meeting (wsV RX12 435 RX12 yX12_meetsAt wsX12_meetsAt) := goodIn_app (goodIn_of _ (by decide +kernel)) ggX12_meeting_X12_meetsAt
theorem dX12_meeting_0 : decode cX12_meeting 0 = .ok (.aload_n 0, 1) := by decide +kernel
theorem dX12_meeting_1 : decode cX12_meeting 1 = .ok (.iconst 0, 1) := by decide +kernel
theorem dX12_meeting_2 : decode cX12_meeting 2 = .ok (.putfield 129, 3) := by decide +kernel
theorem dX12_meeting_5 : decode cX12_meeting 5 = .ok (.iload_n 1, 1) := by decide +kernel
theorem dX12_meeting_6 : decode cX12_meeting 6 = .ok (.iconst 0, 1) := by decide +kernel
theorem dX12_meeting_7 : decode cX12_meeting 7 = .ok (.iconst 1, 1) := by decide +kernel
theorem dX12_meeting_8 : decode cX12_meeting 8 = .ok (.invokestatic 252, 3) := by decide +kernel
theorem dX12_meeting_11 : decode cX12_meeting 11 = .ok (.ifCond .ne 5, 3) := by decide +kernel
theorem dX12_meeting_14 : decode cX12_meeting 14 = .ok (.iconst (-1), 1) := by decide +kernel
theorem dX12_meeting_15 : decode cX12_meeting 15 = .ok (.ireturn, 1) := by decide +kernel
theorem dX12_meeting_16 : decode cX12_meeting 16 = .ok (.iconst (-1), 1) := by decide +kernel
theorem dX12_meeting_17 : decode cX12_meeting 17 = .ok (.istore_n 2, 1) := by decide +kernel
theorem dX12_meeting_18 : decode cX12_meeting 18 = .ok (.iconst (-1), 1) := by decide +kernel
theorem dX12_meeting_19 : decode cX12_meeting 19 = .ok (.istore_n 3, 1) := by decide +kernel
theorem dX12_meeting_20 : decode cX12_meeting 20 = .ok (.iconst 0, 1) := by decide +kernel
theorem dX12_meeting_21 : decode cX12_meeting 21 = .ok (.istore 4, 2) := by decide +kernel
theorem dX12_meeting_23 : decode cX12_meeting 23 = .ok (.iload 4, 2) := by decide +kernel
theorem dX12_meeting_25 : decode cX12_meeting 25 = .ok (.aload_n 0, 1) := by decide +kernel
theorem dX12_meeting_26 : decode cX12_meeting 26 = .ok (.getfield 13, 3) := by decide +kernel
theorem dX12_meeting_29 : decode cX12_meeting 29 = .ok (.iconst 0, 1) := by decide +kernel
theorem dX12_meeting_30 : decode cX12_meeting 30 = .ok (.iaload, 1) := by decide +kernel
theorem dX12_meeting_31 : decode cX12_meeting 31 = .ok (.if_icmp .ge 41, 3) := by decide +kernel
theorem dX12_meeting_34 : decode cX12_meeting 34 = .ok (.aload_n 0, 1) := by decide +kernel
theorem dX12_meeting_35 : decode cX12_meeting 35 = .ok (.iload 4, 2) := by decide +kernel
theorem dX12_meeting_37 : decode cX12_meeting 37 = .ok (.invokevirtual 435, 3) := by decide +kernel
theorem dX12_meeting_40 : decode cX12_meeting 40 = .ok (.istore 5, 2) := by decide +kernel
theorem dX12_meeting_42 : decode cX12_meeting 42 = .ok (.iload 5, 2) := by decide +kernel
theorem dX12_meeting_44 : decode cX12_meeting 44 = .ok (.ifCond .lt 22, 3) := by decide +kernel
theorem dX12_meeting_47 : decode cX12_meeting 47 = .ok (.iload_n 2, 1) := by decide +kernel
theorem dX12_meeting_48 : decode cX12_meeting 48 = .ok (.ifCond .lt 12, 3) := by decide +kernel
theorem dX12_meeting_51 : decode cX12_meeting 51 = .ok (.iload 5, 2) := by decide +kernel
theorem dX12_meeting_53 : decode cX12_meeting 53 = .ok (.iload_n 3, 1) := by decide +kernel
theorem dX12_meeting_54 : decode cX12_meeting 54 = .ok (.if_icmp .lt 6, 3) := by decide +kernel
theorem dX12_meeting_57 : decode cX12_meeting 57 = .ok (.goto 9, 3) := by decide +kernel
theorem dX12_meeting_60 : decode cX12_meeting 60 = .ok (.iload 4, 2) := by decide +kernel
theorem dX12_meeting_62 : decode cX12_meeting 62 = .ok (.istore_n 2, 1) := by decide +kernel
theorem dX12_meeting_63 : decode cX12_meeting 63 = .ok (.iload 5, 2) := by decide +kernel
theorem dX12_meeting_65 : decode cX12_meeting 65 = .ok (.istore_n 3, 1) := by decide +kernel
theorem dX12_meeting_66 : decode cX12_meeting 66 = .ok (.iinc 4 1, 3) := by decide +kernel
theorem dX12_meeting_69 : decode cX12_meeting 69 = .ok (.goto (-46), 3) := by decide +kernel
theorem dX12_meeting_72 : decode cX12_meeting 72 = .ok (.iload_n 1, 1) := by decide +kernel
theorem dX12_meeting_73 : decode cX12_meeting 73 = .ok (.ifCond .ne 7, 3) := by decide +kernel
theorem dX12_meeting_76 : decode cX12_meeting 76 = .ok (.iload_n 3, 1) := by decide +kernel
theorem dX12_meeting_77 : decode cX12_meeting 77 = .ok (.goto 4, 3) := by decide +kernel
theorem dX12_meeting_80 : decode cX12_meeting 80 = .ok (.iload_n 2, 1) := by decide +kernel
theorem dX12_meeting_81 : decode cX12_meeting 81 = .ok (.ireturn, 1) := by decide +kernel
set_option maxRecDepth 20000 in
theorem ggX12_speakers_X12_isPerson : GoodIn wsX12_speakers wsX12_isPerson := goodIn_r _ [8, 9, 57, 58, 59, 60, 61, 62, 63, 64, 65, 66, 67, 68, 69, 70, 71, 72, 73, 74, 75, 76, 77, 78, 79, 80, 81, 82, 83, 84, 85, 86, 87, 88, 89, 90, 91, 92, 93, 94, 95, 96, 97, 98, 99, 100, 101, 102, 103, 104, 105, 106, 107, 108, 109, 110, 111, 112, 113] (by decide +kernel) (by decide +kernel)
set_option maxRecDepth 20000 in
theorem gX12_speakers_X12_isPerson : GoodIn wsX12_speakers (wsV RX12 370 RX12 yX12_isPerson wsX12_isPerson) := goodIn_app (goodIn_of _ (by decide +kernel)) ggX12_speakers_X12_isPerson
set_option maxRecDepth 20000 in
theorem ggX12_speakers_X12_isTown : GoodIn wsX12_speakers wsX12_isTown := goodIn_r _ [13, 9, 57, 58, 59, 60, 61, 62, 63, 64, 65, 66, 67, 68, 69, 70, 71, 72, 73, 74, 75, 76, 77, 78, 79, 80, 81, 82, 83, 84, 85, 86, 87, 88, 89, 90, 91, 92, 93, 94, 95, 96, 97, 98, 99, 100, 101, 102, 103, 104, 105, 106, 107, 108, 109, 110, 111, 112, 113] (by decide +kernel) (by decide +kernel)
set_option maxRecDepth 20000 in
theorem gX12_speakers_X12_isTown : GoodIn wsX12_speakers (wsV RX12 373 RX12 yX12_isTown wsX12_isTown) := goodIn_app (goodIn_of _ (by decide +kernel)) ggX12_speakers_X12_isTown
set_option maxRecDepth 20000 in
theorem ggX12_speakers_X12_speakersAt : GoodIn wsX12_speakers wsX12_speakersAt := goodIn_r _ [17, 9, 2, 3, 18, 19, 20, 7, 21, 22, 23, 24, 25, 26, 27, 28, 29, 30, 31, 32, 33, 34, 35, 36, 37, 38, 39, 40, 41, 42, 43, 44, 45, 46, 47, 48, 49, 50, 51, 52, 53, 54, 55, 56, 57, 58, 59, 60, 61, 62, 63, 64, 65, 66, 67, 68, 69, 70, 71, 72, 73, 74, 75, 76, 77, 78, 79, 80, 81, 82, 83, 84, 85, 86, 87, 88, 89, 90, 91, 92, 93, 94, 95, 96, 97, 98, 99, 100, 101, 102, 103, 104, 105, 106, 107, 108, 109, 110, 111, 112, 113] (by decide +kernel) (by decide +kernel)
set_option maxRecDepth 20000 in
theorem gX12_speakers_X12_speakersAt : GoodIn wsX12_speakers (wsV RX12 358 RX12 yX12_speakersAt wsX12_speakersAt) := goodIn_app (goodIn_of _ (by decide +kernel)) ggX12_speakers_X12_speakersAt
theorem dX12_speakers_0 : decode cX12_speakers 0 = .ok (.aload_n 0, 1) := by decide +kernel
theorem dX12_speakers_1 : decode cX12_speakers 1 = .ok (.iconst 0, 1) := by decide +kernel
theorem dX12_speakers_2 : decode cX12_speakers 2 = .ok (.putfield 129, 3) := by decide +kernel
theorem dX12_speakers_5 : decode cX12_speakers 5 = .ok (.aload_n 0, 1) := by decide +kernel
theorem dX12_speakers_6 : decode cX12_speakers 6 = .ok (.iload_n 1, 1) := by decide +kernel
theorem dX12_speakers_7 : decode cX12_speakers 7 = .ok (.invokevirtual 370, 3) := by decide +kernel
theorem dX12_speakers_10 : decode cX12_speakers 10 = .ok (.ifCond .eq 37, 3) := by decide +kernel
theorem dX12_speakers_13 : decode cX12_speakers 13 = .ok (.aload_n 0, 1) := by decide +kernel
theorem dX12_speakers_14 : decode cX12_speakers 14 = .ok (.iload_n 2, 1) := by decide +kernel
theorem dX12_speakers_15 : decode cX12_speakers 15 = .ok (.invokevirtual 373, 3) := by decide +kernel
theorem dX12_speakers_18 : decode cX12_speakers 18 = .ok (.ifCond .eq 29, 3) := by decide +kernel
theorem dX12_speakers_21 : decode cX12_speakers 21 = .ok (.aload_n 0, 1) := by decide +kernel
theorem dX12_speakers_22 : decode cX12_speakers 22 = .ok (.getfield 29, 3) := by decide +kernel
theorem dX12_speakers_25 : decode cX12_speakers 25 = .ok (.iload_n 1, 1) := by decide +kernel
theorem dX12_speakers_26 : decode cX12_speakers 26 = .ok (.iaload, 1) := by decide +kernel
theorem dX12_speakers_27 : decode cX12_speakers 27 = .ok (.iconst 1, 1) := by decide +kernel
theorem dX12_speakers_28 : decode cX12_speakers 28 = .ok (.if_icmp .ne 19, 3) := by decide +kernel
theorem dX12_speakers_31 : decode cX12_speakers 31 = .ok (.aload_n 0, 1) := by decide +kernel
theorem dX12_speakers_32 : decode cX12_speakers 32 = .ok (.aload_n 0, 1) := by decide +kernel
theorem dX12_speakers_33 : decode cX12_speakers 33 = .ok (.getfield 108, 3) := by decide +kernel
theorem dX12_speakers_36 : decode cX12_speakers 36 = .ok (.iconst 1, 1) := by decide +kernel
theorem dX12_speakers_37 : decode cX12_speakers 37 = .ok (.iload_n 1, 1) := by decide +kernel
theorem dX12_speakers_38 : decode cX12_speakers 38 = .ok (.iadd, 1) := by decide +kernel
theorem dX12_speakers_39 : decode cX12_speakers 39 = .ok (.iaload, 1) := by decide +kernel
theorem dX12_speakers_40 : decode cX12_speakers 40 = .ok (.iload_n 2, 1) := by decide +kernel
theorem dX12_speakers_41 : decode cX12_speakers 41 = .ok (.invokevirtual 358, 3) := by decide +kernel
theorem dX12_speakers_44 : decode cX12_speakers 44 = .ok (.goto 4, 3) := by decide +kernel
theorem dX12_speakers_47 : decode cX12_speakers 47 = .ok (.iconst (-1), 1) := by decide +kernel
theorem dX12_speakers_48 : decode cX12_speakers 48 = .ok (.ireturn, 1) := by decide +kernel
set_option maxRecDepth 20000 in
theorem ggX12_strict_X12_letThrough : GoodIn wsX12_strict wsX12_letThrough := goodIn_r _ [7, 2, 8, 9, 10, 11, 6, 12, 13, 14, 15, 16, 17, 18, 19, 20, 21, 22, 23, 24, 25, 26, 27, 28, 29, 30, 31, 32, 33, 34, 35, 36, 37, 38, 39, 40, 41, 42, 43, 44, 45, 46, 47, 48, 49, 50, 51, 52, 53, 54, 55, 56, 60, 61, 62, 63, 64, 65, 66, 67, 68, 69, 70, 71, 72, 73, 74, 75, 76, 77, 78, 79, 80, 81, 82, 83, 84, 85, 86, 87, 88, 89, 90, 91, 92, 93, 94, 95, 96, 97, 98, 99, 100, 101, 102, 103, 104, 105, 106, 107, 108, 109, 110, 111, 112, 113, 114, 115, 116] (by decide +kernel) (by decide +kernel)
set_option maxRecDepth 20000 in
theorem gX12_strict_X12_letThrough : GoodIn wsX12_strict (wsV RX12 376 RX12 yX12_letThrough wsX12_letThrough) := goodIn_app (goodIn_of _ (by decide +kernel)) ggX12_strict_X12_letThrough
set_option maxRecDepth 20000 in
theorem ggX12_strict_X12_bits : GoodIn wsX12_strict wsX12_bits := goodIn_r _ [59] (by decide +kernel) (by decide +kernel)
set_option maxRecDepth 20000 in
theorem gX12_strict_X12_bits : GoodIn wsX12_strict (va_wsS RX12 438 yX12_bits wsX12_bits) := goodIn_app (goodIn_of _ (by decide +kernel)) ggX12_strict_X12_bits
theorem dX12_strict_0 : decode cX12_strict 0 = .ok (.aload_n 0, 1) := by decide +kernel
theorem dX12_strict_1 : decode cX12_strict 1 = .ok (.iconst 0, 1) := by decide +kernel
theorem dX12_strict_2 : decode cX12_strict 2 = .ok (.putfield 129, 3) := by decide +kernel
theorem dX12_strict_5 : decode cX12_strict 5 = .ok (.iconst (-1), 1) := by decide +kernel
theorem dX12_strict_6 : decode cX12_strict 6 = .ok (.istore_n 1, 1) := by decide +kernel
theorem dX12_strict_7 : decode cX12_strict 7 = .ok (.iconst 0, 1) := by decide +kernel
theorem dX12_strict_8 : decode cX12_strict 8 = .ok (.istore_n 2, 1) := by decide +kernel
theorem dX12_strict_9 : decode cX12_strict 9 = .ok (.iload_n 2, 1) := by decide +kernel
theorem dX12_strict_10 : decode cX12_strict 10 = .ok (.aload_n 0, 1) := by decide +kernel
theorem dX12_strict_11 : decode cX12_strict 11 = .ok (.getfield 13, 3) := by decide +kernel
theorem dX12_strict_14 : decode cX12_strict 14 = .ok (.iconst 0, 1) := by decide +kernel
theorem dX12_strict_15 : decode cX12_strict 15 = .ok (.iaload, 1) := by decide +kernel
theorem dX12_strict_16 : decode cX12_strict 16 = .ok (.if_icmp .ge 34, 3) := by decide +kernel
theorem dX12_strict_19 : decode cX12_strict 19 = .ok (.iload_n 1, 1) := by decide +kernel
theorem dX12_strict_20 : decode cX12_strict 20 = .ok (.ifCond .lt 22, 3) := by decide +kernel
theorem dX12_strict_23 : decode cX12_strict 23 = .ok (.aload_n 0, 1) := by decide +kernel
theorem dX12_strict_24 : decode cX12_strict 24 = .ok (.iload_n 2, 1) := by decide +kernel
theorem dX12_strict_25 : decode cX12_strict 25 = .ok (.invokevirtual 376, 3) := by decide +kernel
theorem dX12_strict_28 : decode cX12_strict 28 = .ok (.invokestatic 438, 3) := by decide +kernel
theorem dX12_strict_31 : decode cX12_strict 31 = .ok (.aload_n 0, 1) := by decide +kernel
theorem dX12_strict_32 : decode cX12_strict 32 = .ok (.iload_n 1, 1) := by decide +kernel
theorem dX12_strict_33 : decode cX12_strict 33 = .ok (.invokevirtual 376, 3) := by decide +kernel
theorem dX12_strict_36 : decode cX12_strict 36 = .ok (.invokestatic 438, 3) := by decide +kernel
theorem dX12_strict_39 : decode cX12_strict 39 = .ok (.if_icmp .ge 5, 3) := by decide +kernel
theorem dX12_strict_42 : decode cX12_strict 42 = .ok (.iload_n 2, 1) := by decide +kernel
theorem dX12_strict_43 : decode cX12_strict 43 = .ok (.istore_n 1, 1) := by decide +kernel
theorem dX12_strict_44 : decode cX12_strict 44 = .ok (.iinc 2 1, 3) := by decide +kernel
theorem dX12_strict_47 : decode cX12_strict 47 = .ok (.goto (-38), 3) := by decide +kernel
theorem dX12_strict_50 : decode cX12_strict 50 = .ok (.iload_n 1, 1) := by decide +kernel
theorem dX12_strict_51 : decode cX12_strict 51 = .ok (.ireturn, 1) := by decide +kernel
set_option maxRecDepth 20000 in
theorem ggX12_alike_X12_letThrough : GoodIn wsX12_alike wsX12_letThrough := goodIn_r _ [7, 2, 8, 9, 10, 11, 6, 12, 13, 14, 15, 16, 17, 18, 19, 20, 21, 22, 23, 24, 25, 26, 27, 28, 29, 30, 31, 32, 33, 34, 35, 36, 37, 38, 39, 40, 41, 42, 43, 44, 45, 46, 47, 48, 49, 50, 51, 52, 53, 54, 55, 56, 57, 58, 59, 60, 61, 62, 63, 64, 65, 66, 67, 68, 69, 70, 71, 72, 73, 74, 75, 76, 77, 78, 79, 80, 81, 82, 83, 84, 85, 86, 87, 88, 89, 90, 91, 92, 93, 94, 95, 96, 97, 98, 99, 100, 101, 102, 103, 104, 105, 106, 107, 108, 109, 110, 111, 112, 113] (by decide +kernel) (by decide +kernel)
set_option maxRecDepth 20000 in
theorem gX12_alike_X12_letThrough : GoodIn wsX12_alike (wsV RX12 376 RX12 yX12_letThrough wsX12_letThrough) := goodIn_app (goodIn_of _ (by decide +kernel)) ggX12_alike_X12_letThrough
theorem dX12_alike_0 : decode cX12_alike 0 = .ok (.aload_n 0, 1) := by decide +kernel
theorem dX12_alike_1 : decode cX12_alike 1 = .ok (.iconst 0, 1) := by decide +kernel
theorem dX12_alike_2 : decode cX12_alike 2 = .ok (.putfield 129, 3) := by decide +kernel
theorem dX12_alike_5 : decode cX12_alike 5 = .ok (.iconst 0, 1) := by decide +kernel
theorem dX12_alike_6 : decode cX12_alike 6 = .ok (.istore_n 1, 1) := by decide +kernel
theorem dX12_alike_7 : decode cX12_alike 7 = .ok (.iconst 0, 1) := by decide +kernel
theorem dX12_alike_8 : decode cX12_alike 8 = .ok (.istore_n 2, 1) := by decide +kernel
theorem dX12_alike_9 : decode cX12_alike 9 = .ok (.iload_n 2, 1) := by decide +kernel
theorem dX12_alike_10 : decode cX12_alike 10 = .ok (.aload_n 0, 1) := by decide +kernel
theorem dX12_alike_11 : decode cX12_alike 11 = .ok (.getfield 13, 3) := by decide +kernel
theorem dX12_alike_14 : decode cX12_alike 14 = .ok (.iconst 0, 1) := by decide +kernel
theorem dX12_alike_15 : decode cX12_alike 15 = .ok (.iaload, 1) := by decide +kernel
theorem dX12_alike_16 : decode cX12_alike 16 = .ok (.if_icmp .ge 43, 3) := by decide +kernel
theorem dX12_alike_19 : decode cX12_alike 19 = .ok (.iconst 0, 1) := by decide +kernel
theorem dX12_alike_20 : decode cX12_alike 20 = .ok (.istore_n 3, 1) := by decide +kernel
theorem dX12_alike_21 : decode cX12_alike 21 = .ok (.iload_n 3, 1) := by decide +kernel
theorem dX12_alike_22 : decode cX12_alike 22 = .ok (.iload_n 2, 1) := by decide +kernel
theorem dX12_alike_23 : decode cX12_alike 23 = .ok (.if_icmp .ge 30, 3) := by decide +kernel
theorem dX12_alike_26 : decode cX12_alike 26 = .ok (.iload_n 1, 1) := by decide +kernel
theorem dX12_alike_27 : decode cX12_alike 27 = .ok (.aload_n 0, 1) := by decide +kernel
theorem dX12_alike_28 : decode cX12_alike 28 = .ok (.iload_n 2, 1) := by decide +kernel
theorem dX12_alike_29 : decode cX12_alike 29 = .ok (.invokevirtual 376, 3) := by decide +kernel
theorem dX12_alike_32 : decode cX12_alike 32 = .ok (.aload_n 0, 1) := by decide +kernel
theorem dX12_alike_33 : decode cX12_alike 33 = .ok (.iload_n 3, 1) := by decide +kernel
theorem dX12_alike_34 : decode cX12_alike 34 = .ok (.invokevirtual 376, 3) := by decide +kernel
theorem dX12_alike_37 : decode cX12_alike 37 = .ok (.if_icmp .ne 7, 3) := by decide +kernel
theorem dX12_alike_40 : decode cX12_alike 40 = .ok (.iconst 1, 1) := by decide +kernel
theorem dX12_alike_41 : decode cX12_alike 41 = .ok (.goto 4, 3) := by decide +kernel
theorem dX12_alike_44 : decode cX12_alike 44 = .ok (.iconst 0, 1) := by decide +kernel
theorem dX12_alike_45 : decode cX12_alike 45 = .ok (.iadd, 1) := by decide +kernel
theorem dX12_alike_46 : decode cX12_alike 46 = .ok (.istore_n 1, 1) := by decide +kernel
theorem dX12_alike_47 : decode cX12_alike 47 = .ok (.iinc 3 1, 3) := by decide +kernel
theorem dX12_alike_50 : decode cX12_alike 50 = .ok (.goto (-29), 3) := by decide +kernel
theorem dX12_alike_53 : decode cX12_alike 53 = .ok (.iinc 2 1, 3) := by decide +kernel
theorem dX12_alike_56 : decode cX12_alike 56 = .ok (.goto (-47), 3) := by decide +kernel
theorem dX12_alike_59 : decode cX12_alike 59 = .ok (.iload_n 1, 1) := by decide +kernel
theorem dX12_alike_60 : decode cX12_alike 60 = .ok (.ireturn, 1) := by decide +kernel
set_option maxRecDepth 20000 in
theorem ggX12_see_X12_isTown : GoodIn wsX12_see wsX12_isTown := goodIn_r _ [9, 10, 11, 12, 13, 14, 15, 16, 17, 18, 19, 20, 21, 22, 23, 24, 25, 26, 27, 28, 29, 30, 31, 32, 33, 34, 35, 36, 37, 38, 39, 40, 41, 42, 43, 44, 45, 46, 47, 48, 49, 50, 51, 52, 53, 54, 55, 56, 57, 58, 59, 60, 61, 62, 63, 64, 65, 66, 67] (by decide +kernel) (by decide +kernel)
set_option maxRecDepth 20000 in
theorem gX12_see_X12_isTown : GoodIn wsX12_see (wsV RX12 373 RX12 yX12_isTown wsX12_isTown) := goodIn_app (goodIn_of _ (by decide +kernel)) ggX12_see_X12_isTown
theorem dX12_see_0 : decode cX12_see 0 = .ok (.aload_n 0, 1) := by decide +kernel
theorem dX12_see_1 : decode cX12_see 1 = .ok (.iconst 0, 1) := by decide +kernel
theorem dX12_see_2 : decode cX12_see 2 = .ok (.putfield 129, 3) := by decide +kernel
theorem dX12_see_5 : decode cX12_see 5 = .ok (.aload_n 0, 1) := by decide +kernel
theorem dX12_see_6 : decode cX12_see 6 = .ok (.iload_n 1, 1) := by decide +kernel
theorem dX12_see_7 : decode cX12_see 7 = .ok (.invokevirtual 373, 3) := by decide +kernel
theorem dX12_see_10 : decode cX12_see 10 = .ok (.ifCond .eq 14, 3) := by decide +kernel
theorem dX12_see_13 : decode cX12_see 13 = .ok (.aload_n 0, 1) := by decide +kernel
theorem dX12_see_14 : decode cX12_see 14 = .ok (.getfield 99, 3) := by decide +kernel
theorem dX12_see_17 : decode cX12_see 17 = .ok (.iconst 0, 1) := by decide +kernel
theorem dX12_see_18 : decode cX12_see 18 = .ok (.iaload, 1) := by decide +kernel
theorem dX12_see_19 : decode cX12_see 19 = .ok (.bipush 8, 2) := by decide +kernel
theorem dX12_see_21 : decode cX12_see 21 = .ok (.if_icmp .ne 5, 3) := by decide +kernel
theorem dX12_see_24 : decode cX12_see 24 = .ok (.iconst 0, 1) := by decide +kernel
theorem dX12_see_25 : decode cX12_see 25 = .ok (.ireturn, 1) := by decide +kernel
theorem dX12_see_26 : decode cX12_see 26 = .ok (.aload_n 0, 1) := by decide +kernel
theorem dX12_see_27 : decode cX12_see 27 = .ok (.getfield 102, 3) := by decide +kernel
theorem dX12_see_30 : decode cX12_see 30 = .ok (.aload_n 0, 1) := by decide +kernel
theorem dX12_see_31 : decode cX12_see 31 = .ok (.getfield 99, 3) := by decide +kernel
theorem dX12_see_34 : decode cX12_see 34 = .ok (.iconst 0, 1) := by decide +kernel
theorem dX12_see_35 : decode cX12_see 35 = .ok (.iaload, 1) := by decide +kernel
theorem dX12_see_36 : decode cX12_see 36 = .ok (.iload_n 1, 1) := by decide +kernel
theorem dX12_see_37 : decode cX12_see 37 = .ok (.iastore, 1) := by decide +kernel
theorem dX12_see_38 : decode cX12_see 38 = .ok (.aload_n 0, 1) := by decide +kernel
theorem dX12_see_39 : decode cX12_see 39 = .ok (.getfield 105, 3) := by decide +kernel
theorem dX12_see_42 : decode cX12_see 42 = .ok (.aload_n 0, 1) := by decide +kernel
theorem dX12_see_43 : decode cX12_see 43 = .ok (.getfield 99, 3) := by decide +kernel
theorem dX12_see_46 : decode cX12_see 46 = .ok (.iconst 0, 1) := by decide +kernel
theorem dX12_see_47 : decode cX12_see 47 = .ok (.iaload, 1) := by decide +kernel
theorem dX12_see_48 : decode cX12_see 48 = .ok (.iload_n 2, 1) := by decide +kernel
theorem dX12_see_49 : decode cX12_see 49 = .ok (.bastore, 1) := by decide +kernel
theorem dX12_see_50 : decode cX12_see 50 = .ok (.aload_n 0, 1) := by decide +kernel
theorem dX12_see_51 : decode cX12_see 51 = .ok (.getfield 99, 3) := by decide +kernel
theorem dX12_see_54 : decode cX12_see 54 = .ok (.iconst 0, 1) := by decide +kernel
theorem dX12_see_55 : decode cX12_see 55 = .ok (.dup2, 1) := by decide +kernel
theorem dX12_see_56 : decode cX12_see 56 = .ok (.iaload, 1) := by decide +kernel
theorem dX12_see_57 : decode cX12_see 57 = .ok (.iconst 1, 1) := by decide +kernel
theorem dX12_see_58 : decode cX12_see 58 = .ok (.iadd, 1) := by decide +kernel
theorem dX12_see_59 : decode cX12_see 59 = .ok (.iastore, 1) := by decide +kernel
theorem dX12_see_60 : decode cX12_see 60 = .ok (.iconst 1, 1) := by decide +kernel
theorem dX12_see_61 : decode cX12_see 61 = .ok (.ireturn, 1) := by decide +kernel
set_option maxRecDepth 20000 in
theorem ggX12_isAsSeen_X12_readsBeard : GoodIn wsX12_isAsSeen wsX12_readsBeard := goodIn_r _ [9, 10, 11, 12, 13, 14, 15, 16, 8, 17, 18, 19, 20, 21, 22, 23, 24, 25, 26, 27, 28, 29, 30, 31, 32, 33, 34, 35, 36, 37, 38, 39, 40, 41, 42, 43, 44, 45, 46, 47, 48, 49, 50, 51, 52, 53, 54, 55, 56, 57, 58, 59, 60, 61, 62, 63, 64, 65, 66, 67, 68, 69, 70, 71, 72, 73, 74, 75, 76, 77, 78, 79, 80, 81, 82, 83, 84, 85, 86, 87, 88, 89, 90, 91, 92, 93, 94, 95, 96] (by decide +kernel) (by decide +kernel)
set_option maxRecDepth 20000 in
theorem gX12_isAsSeen_X12_readsBeard : GoodIn wsX12_isAsSeen (wsV RX12 352 RX12 yX12_readsBeard wsX12_readsBeard) := goodIn_app (goodIn_of _ (by decide +kernel)) ggX12_isAsSeen_X12_readsBeard
theorem dX12_isAsSeen_0 : decode cX12_isAsSeen 0 = .ok (.iconst 0, 1) := by decide +kernel
theorem dX12_isAsSeen_1 : decode cX12_isAsSeen 1 = .ok (.istore_n 2, 1) := by decide +kernel
theorem dX12_isAsSeen_2 : decode cX12_isAsSeen 2 = .ok (.iload_n 2, 1) := by decide +kernel
theorem dX12_isAsSeen_3 : decode cX12_isAsSeen 3 = .ok (.aload_n 0, 1) := by decide +kernel
theorem dX12_isAsSeen_4 : decode cX12_isAsSeen 4 = .ok (.getfield 99, 3) := by decide +kernel
theorem dX12_isAsSeen_7 : decode cX12_isAsSeen 7 = .ok (.iconst 0, 1) := by decide +kernel
theorem dX12_isAsSeen_8 : decode cX12_isAsSeen 8 = .ok (.iaload, 1) := by decide +kernel
theorem dX12_isAsSeen_9 : decode cX12_isAsSeen 9 = .ok (.if_icmp .ge 37, 3) := by decide +kernel
theorem dX12_isAsSeen_12 : decode cX12_isAsSeen 12 = .ok (.aload_n 0, 1) := by decide +kernel
theorem dX12_isAsSeen_13 : decode cX12_isAsSeen 13 = .ok (.iload_n 1, 1) := by decide +kernel
theorem dX12_isAsSeen_14 : decode cX12_isAsSeen 14 = .ok (.iconst 0, 1) := by decide +kernel
theorem dX12_isAsSeen_15 : decode cX12_isAsSeen 15 = .ok (.aload_n 0, 1) := by decide +kernel
theorem dX12_isAsSeen_16 : decode cX12_isAsSeen 16 = .ok (.getfield 23, 3) := by decide +kernel
theorem dX12_isAsSeen_19 : decode cX12_isAsSeen 19 = .ok (.aload_n 0, 1) := by decide +kernel
theorem dX12_isAsSeen_20 : decode cX12_isAsSeen 20 = .ok (.getfield 102, 3) := by decide +kernel
theorem dX12_isAsSeen_23 : decode cX12_isAsSeen 23 = .ok (.iload_n 2, 1) := by decide +kernel
theorem dX12_isAsSeen_24 : decode cX12_isAsSeen 24 = .ok (.iaload, 1) := by decide +kernel
theorem dX12_isAsSeen_25 : decode cX12_isAsSeen 25 = .ok (.iaload, 1) := by decide +kernel
theorem dX12_isAsSeen_26 : decode cX12_isAsSeen 26 = .ok (.invokevirtual 352, 3) := by decide +kernel
theorem dX12_isAsSeen_29 : decode cX12_isAsSeen 29 = .ok (.aload_n 0, 1) := by decide +kernel
theorem dX12_isAsSeen_30 : decode cX12_isAsSeen 30 = .ok (.getfield 105, 3) := by decide +kernel
theorem dX12_isAsSeen_33 : decode cX12_isAsSeen 33 = .ok (.iload_n 2, 1) := by decide +kernel
theorem dX12_isAsSeen_34 : decode cX12_isAsSeen 34 = .ok (.baload, 1) := by decide +kernel
theorem dX12_isAsSeen_35 : decode cX12_isAsSeen 35 = .ok (.if_icmp .eq 5, 3) := by decide +kernel
theorem dX12_isAsSeen_38 : decode cX12_isAsSeen 38 = .ok (.iconst 0, 1) := by decide +kernel
theorem dX12_isAsSeen_39 : decode cX12_isAsSeen 39 = .ok (.ireturn, 1) := by decide +kernel
theorem dX12_isAsSeen_40 : decode cX12_isAsSeen 40 = .ok (.iinc 2 1, 3) := by decide +kernel
theorem dX12_isAsSeen_43 : decode cX12_isAsSeen 43 = .ok (.goto (-41), 3) := by decide +kernel
theorem dX12_isAsSeen_46 : decode cX12_isAsSeen 46 = .ok (.iconst 1, 1) := by decide +kernel
theorem dX12_isAsSeen_47 : decode cX12_isAsSeen 47 = .ok (.ireturn, 1) := by decide +kernel
set_option maxRecDepth 20000 in
theorem ggX12_lengths_X12_within : GoodIn wsX12_lengths wsX12_within := goodIn_r _ [5] (by decide +kernel) (by decide +kernel)
set_option maxRecDepth 20000 in
theorem gX12_lengths_X12_within : GoodIn wsX12_lengths (va_wsS RX12 252 yX12_within wsX12_within) := goodIn_app (goodIn_of _ (by decide +kernel)) ggX12_lengths_X12_within
set_option maxRecDepth 20000 in
theorem ggX12_lengths_X12_isAsSeen : GoodIn wsX12_lengths wsX12_isAsSeen := goodIn_r _ [9, 10, 11, 12, 13, 14, 15, 16, 4, 17, 18, 19, 20, 21, 22, 23, 24, 25, 26, 27, 28, 29, 30, 31, 32, 33, 34, 35, 36, 37, 38, 39, 40, 41, 42, 43, 44, 45, 46, 47, 48, 49, 50, 51, 52, 53, 54, 55, 56, 57, 58, 59, 60, 61, 62, 63, 64, 65, 66, 67, 68, 69, 70, 71, 72, 73, 74, 75, 76, 77, 78, 79, 80, 81, 82, 83, 84, 85, 86, 87, 88, 89, 90, 91, 92, 93, 94, 95, 96, 97, 98, 99, 100, 101, 102, 103, 104] (by decide +kernel) (by decide +kernel)
set_option maxRecDepth 20000 in
theorem gX12_lengths_X12_isAsSeen : GoodIn wsX12_lengths (wsV RX12 441 RX12 yX12_isAsSeen wsX12_isAsSeen) := goodIn_app (goodIn_of _ (by decide +kernel)) ggX12_lengths_X12_isAsSeen
theorem dX12_lengths_0 : decode cX12_lengths 0 = .ok (.aload_n 0, 1) := by decide +kernel
theorem dX12_lengths_1 : decode cX12_lengths 1 = .ok (.iconst 0, 1) := by decide +kernel
theorem dX12_lengths_2 : decode cX12_lengths 2 = .ok (.putfield 129, 3) := by decide +kernel
theorem dX12_lengths_5 : decode cX12_lengths 5 = .ok (.iload_n 1, 1) := by decide +kernel
theorem dX12_lengths_6 : decode cX12_lengths 6 = .ok (.iconst 0, 1) := by decide +kernel
theorem dX12_lengths_7 : decode cX12_lengths 7 = .ok (.iconst 2, 1) := by decide +kernel
theorem dX12_lengths_8 : decode cX12_lengths 8 = .ok (.invokestatic 252, 3) := by decide +kernel
theorem dX12_lengths_11 : decode cX12_lengths 11 = .ok (.ifCond .ne 5, 3) := by decide +kernel
theorem dX12_lengths_14 : decode cX12_lengths 14 = .ok (.iconst (-1), 1) := by decide +kernel
theorem dX12_lengths_15 : decode cX12_lengths 15 = .ok (.ireturn, 1) := by decide +kernel
theorem dX12_lengths_16 : decode cX12_lengths 16 = .ok (.iconst 0, 1) := by decide +kernel
theorem dX12_lengths_17 : decode cX12_lengths 17 = .ok (.istore_n 2, 1) := by decide +kernel
theorem dX12_lengths_18 : decode cX12_lengths 18 = .ok (.iconst (-1), 1) := by decide +kernel
theorem dX12_lengths_19 : decode cX12_lengths 19 = .ok (.istore_n 3, 1) := by decide +kernel
theorem dX12_lengths_20 : decode cX12_lengths 20 = .ok (.iconst (-1), 1) := by decide +kernel
theorem dX12_lengths_21 : decode cX12_lengths 21 = .ok (.istore 4, 2) := by decide +kernel
theorem dX12_lengths_23 : decode cX12_lengths 23 = .ok (.iconst 0, 1) := by decide +kernel
theorem dX12_lengths_24 : decode cX12_lengths 24 = .ok (.istore 5, 2) := by decide +kernel
theorem dX12_lengths_26 : decode cX12_lengths 26 = .ok (.iload 5, 2) := by decide +kernel
theorem dX12_lengths_28 : decode cX12_lengths 28 = .ok (.bipush 31, 2) := by decide +kernel
theorem dX12_lengths_30 : decode cX12_lengths 30 = .ok (.if_icmp .ge 35, 3) := by decide +kernel
theorem dX12_lengths_33 : decode cX12_lengths 33 = .ok (.aload_n 0, 1) := by decide +kernel
theorem dX12_lengths_34 : decode cX12_lengths 34 = .ok (.iload 5, 2) := by decide +kernel
theorem dX12_lengths_36 : decode cX12_lengths 36 = .ok (.invokevirtual 441, 3) := by decide +kernel
theorem dX12_lengths_39 : decode cX12_lengths 39 = .ok (.ifCond .ne 6, 3) := by decide +kernel
theorem dX12_lengths_42 : decode cX12_lengths 42 = .ok (.goto 17, 3) := by decide +kernel
theorem dX12_lengths_45 : decode cX12_lengths 45 = .ok (.iinc 2 1, 3) := by decide +kernel
theorem dX12_lengths_48 : decode cX12_lengths 48 = .ok (.iload_n 3, 1) := by decide +kernel
theorem dX12_lengths_49 : decode cX12_lengths 49 = .ok (.ifCond .ge 6, 3) := by decide +kernel
theorem dX12_lengths_52 : decode cX12_lengths 52 = .ok (.iload 5, 2) := by decide +kernel
theorem dX12_lengths_54 : decode cX12_lengths 54 = .ok (.istore_n 3, 1) := by decide +kernel
theorem dX12_lengths_55 : decode cX12_lengths 55 = .ok (.iload 5, 2) := by decide +kernel
theorem dX12_lengths_57 : decode cX12_lengths 57 = .ok (.istore 4, 2) := by decide +kernel
theorem dX12_lengths_59 : decode cX12_lengths 59 = .ok (.iinc 5 1, 3) := by decide +kernel
theorem dX12_lengths_62 : decode cX12_lengths 62 = .ok (.goto (-36), 3) := by decide +kernel
theorem dX12_lengths_65 : decode cX12_lengths 65 = .ok (.iload_n 1, 1) := by decide +kernel
theorem dX12_lengths_66 : decode cX12_lengths 66 = .ok (.ifCond .ne 7, 3) := by decide +kernel
theorem dX12_lengths_69 : decode cX12_lengths 69 = .ok (.iload_n 2, 1) := by decide +kernel
theorem dX12_lengths_70 : decode cX12_lengths 70 = .ok (.goto 14, 3) := by decide +kernel
theorem dX12_lengths_73 : decode cX12_lengths 73 = .ok (.iload_n 1, 1) := by decide +kernel
theorem dX12_lengths_74 : decode cX12_lengths 74 = .ok (.iconst 1, 1) := by decide +kernel
theorem dX12_lengths_75 : decode cX12_lengths 75 = .ok (.if_icmp .ne 7, 3) := by decide +kernel
theorem dX12_lengths_78 : decode cX12_lengths 78 = .ok (.iload_n 3, 1) := by decide +kernel
theorem dX12_lengths_79 : decode cX12_lengths 79 = .ok (.goto 5, 3) := by decide +kernel
theorem dX12_lengths_82 : decode cX12_lengths 82 = .ok (.iload 4, 2) := by decide +kernel
theorem dX12_lengths_84 : decode cX12_lengths 84 = .ok (.ireturn, 1) := by decide +kernel
set_option maxRecDepth 20000 in
theorem ggX12_ask_X12_lengths : GoodIn wsX12_ask wsX12_lengths := goodIn_r _ [12, 1, 13, 14, 11, 15, 16, 17, 18, 19, 20, 3, 21, 22, 23, 24, 25, 26, 27, 28, 29, 30, 31, 32, 33, 34, 35, 36, 37, 38, 39, 40, 41, 42, 43, 44, 45, 46, 47, 48, 49, 50, 51, 52, 53, 54, 55, 56, 57, 58, 59, 60, 61, 62, 63, 64, 65, 66, 67, 68, 69, 70, 71, 72, 73, 74, 75, 76, 77, 78, 79, 80, 81, 82, 83, 84, 85, 86, 87, 88, 89, 90, 91, 92, 93, 94, 95, 96, 97, 98, 99, 100, 101, 102, 103, 104, 105, 106, 107, 108, 109, 110, 111, 112, 113] (by decide +kernel) (by decide +kernel)
set_option maxRecDepth 20000 in
theorem gX12_ask_X12_lengths : GoodIn wsX12_ask (wsV RX12 444 RX12 yX12_lengths wsX12_lengths) := goodIn_app (goodIn_of _ (by decide +kernel)) ggX12_ask_X12_lengths
set_option maxRecDepth 20000 in
theorem ggX12_ask_X12_isAsSeen : GoodIn wsX12_ask wsX12_isAsSeen := goodIn_r _ [19, 20, 3, 21, 22, 23, 24, 25, 11, 26, 27, 28, 29, 30, 31, 32, 33, 34, 35, 36, 37, 38, 39, 40, 41, 42, 43, 44, 45, 46, 47, 48, 49, 50, 51, 52, 53, 54, 55, 56, 57, 58, 59, 60, 61, 62, 63, 64, 65, 66, 67, 68, 69, 70, 71, 72, 73, 74, 75, 76, 77, 78, 79, 80, 81, 82, 83, 84, 85, 86, 87, 88, 89, 90, 91, 92, 93, 94, 95, 96, 97, 98, 99, 100, 101, 102, 103, 104, 105, 106, 107, 108, 109, 110, 111, 112, 113] (by decide +kernel) (by decide +kernel)
set_option maxRecDepth 20000 in
theorem gX12_ask_X12_isAsSeen : GoodIn wsX12_ask (wsV RX12 441 RX12 yX12_isAsSeen wsX12_isAsSeen) := goodIn_app (goodIn_of _ (by decide +kernel)) ggX12_ask_X12_isAsSeen
set_option maxRecDepth 20000 in
theorem ggX12_ask_X12_readsBeard : GoodIn wsX12_ask wsX12_readsBeard := goodIn_r _ [26, 27, 28, 29, 30, 31, 32, 33, 11, 34, 35, 36, 37, 38, 39, 40, 41, 42, 43, 44, 45, 46, 47, 48, 49, 50, 51, 52, 53, 54, 55, 56, 57, 58, 59, 60, 61, 62, 63, 64, 65, 66, 67, 68, 69, 70, 71, 72, 73, 74, 75, 76, 77, 78, 79, 80, 81, 82, 83, 84, 85, 86, 87, 88, 89, 90, 91, 92, 93, 94, 95, 96, 97, 98, 99, 100, 101, 102, 103, 104, 105, 106, 107, 108, 109, 110, 111, 112, 113] (by decide +kernel) (by decide +kernel)
set_option maxRecDepth 20000 in
theorem gX12_ask_X12_readsBeard : GoodIn wsX12_ask (wsV RX12 352 RX12 yX12_readsBeard wsX12_readsBeard) := goodIn_app (goodIn_of _ (by decide +kernel)) ggX12_ask_X12_readsBeard
theorem dX12_ask_0 : decode cX12_ask 0 = .ok (.aload_n 0, 1) := by decide +kernel
theorem dX12_ask_1 : decode cX12_ask 1 = .ok (.iconst 0, 1) := by decide +kernel
theorem dX12_ask_2 : decode cX12_ask 2 = .ok (.putfield 129, 3) := by decide +kernel
theorem dX12_ask_5 : decode cX12_ask 5 = .ok (.aload_n 0, 1) := by decide +kernel
theorem dX12_ask_6 : decode cX12_ask 6 = .ok (.iconst 0, 1) := by decide +kernel
theorem dX12_ask_7 : decode cX12_ask 7 = .ok (.invokevirtual 444, 3) := by decide +kernel
theorem dX12_ask_10 : decode cX12_ask 10 = .ok (.istore_n 1, 1) := by decide +kernel
theorem dX12_ask_11 : decode cX12_ask 11 = .ok (.iload_n 1, 1) := by decide +kernel
theorem dX12_ask_12 : decode cX12_ask 12 = .ok (.istore_n 2, 1) := by decide +kernel
theorem dX12_ask_13 : decode cX12_ask 13 = .ok (.iconst (-1), 1) := by decide +kernel
theorem dX12_ask_14 : decode cX12_ask 14 = .ok (.istore_n 3, 1) := by decide +kernel
theorem dX12_ask_15 : decode cX12_ask 15 = .ok (.iconst 0, 1) := by decide +kernel
theorem dX12_ask_16 : decode cX12_ask 16 = .ok (.istore 4, 2) := by decide +kernel
theorem dX12_ask_18 : decode cX12_ask 18 = .ok (.iload 4, 2) := by decide +kernel
theorem dX12_ask_20 : decode cX12_ask 20 = .ok (.aload_n 0, 1) := by decide +kernel
theorem dX12_ask_21 : decode cX12_ask 21 = .ok (.getfield 13, 3) := by decide +kernel
theorem dX12_ask_24 : decode cX12_ask 24 = .ok (.iconst 0, 1) := by decide +kernel
theorem dX12_ask_25 : decode cX12_ask 25 = .ok (.iaload, 1) := by decide +kernel
theorem dX12_ask_26 : decode cX12_ask 26 = .ok (.if_icmp .ge 90, 3) := by decide +kernel
theorem dX12_ask_29 : decode cX12_ask 29 = .ok (.iconst 0, 1) := by decide +kernel
theorem dX12_ask_30 : decode cX12_ask 30 = .ok (.istore 5, 2) := by decide +kernel
theorem dX12_ask_32 : decode cX12_ask 32 = .ok (.iconst 0, 1) := by decide +kernel
theorem dX12_ask_33 : decode cX12_ask 33 = .ok (.istore 6, 2) := by decide +kernel
theorem dX12_ask_35 : decode cX12_ask 35 = .ok (.iload 6, 2) := by decide +kernel
theorem dX12_ask_37 : decode cX12_ask 37 = .ok (.bipush 31, 2) := by decide +kernel
theorem dX12_ask_39 : decode cX12_ask 39 = .ok (.if_icmp .ge 45, 3) := by decide +kernel
theorem dX12_ask_42 : decode cX12_ask 42 = .ok (.iload 5, 2) := by decide +kernel
theorem dX12_ask_44 : decode cX12_ask 44 = .ok (.aload_n 0, 1) := by decide +kernel
theorem dX12_ask_45 : decode cX12_ask 45 = .ok (.iload 6, 2) := by decide +kernel
theorem dX12_ask_47 : decode cX12_ask 47 = .ok (.invokevirtual 441, 3) := by decide +kernel
theorem dX12_ask_50 : decode cX12_ask 50 = .ok (.ifCond .eq 24, 3) := by decide +kernel
theorem dX12_ask_53 : decode cX12_ask 53 = .ok (.aload_n 0, 1) := by decide +kernel
theorem dX12_ask_54 : decode cX12_ask 54 = .ok (.iload 6, 2) := by decide +kernel
theorem dX12_ask_56 : decode cX12_ask 56 = .ok (.iconst 0, 1) := by decide +kernel
theorem dX12_ask_57 : decode cX12_ask 57 = .ok (.aload_n 0, 1) := by decide +kernel
theorem dX12_ask_58 : decode cX12_ask 58 = .ok (.getfield 23, 3) := by decide +kernel
theorem dX12_ask_61 : decode cX12_ask 61 = .ok (.iload 4, 2) := by decide +kernel
theorem dX12_ask_63 : decode cX12_ask 63 = .ok (.iaload, 1) := by decide +kernel
theorem dX12_ask_64 : decode cX12_ask 64 = .ok (.invokevirtual 352, 3) := by decide +kernel
theorem dX12_ask_67 : decode cX12_ask 67 = .ok (.ifCond .eq 7, 3) := by decide +kernel
theorem dX12_ask_70 : decode cX12_ask 70 = .ok (.iconst 1, 1) := by decide +kernel
theorem dX12_ask_71 : decode cX12_ask 71 = .ok (.goto 4, 3) := by decide +kernel
theorem dX12_ask_74 : decode cX12_ask 74 = .ok (.iconst 0, 1) := by decide +kernel
theorem dX12_ask_75 : decode cX12_ask 75 = .ok (.iadd, 1) := by decide +kernel
theorem dX12_ask_76 : decode cX12_ask 76 = .ok (.istore 5, 2) := by decide +kernel
theorem dX12_ask_78 : decode cX12_ask 78 = .ok (.iinc 6 1, 3) := by decide +kernel
theorem dX12_ask_81 : decode cX12_ask 81 = .ok (.goto (-46), 3) := by decide +kernel
theorem dX12_ask_84 : decode cX12_ask 84 = .ok (.iload 5, 2) := by decide +kernel
theorem dX12_ask_86 : decode cX12_ask 86 = .ok (.iload_n 1, 1) := by decide +kernel
theorem dX12_ask_87 : decode cX12_ask 87 = .ok (.iload 5, 2) := by decide +kernel
theorem dX12_ask_89 : decode cX12_ask 89 = .ok (.isub, 1) := by decide +kernel
theorem dX12_ask_90 : decode cX12_ask 90 = .ok (.invokestatic 404, 3) := by decide +kernel
theorem dX12_ask_93 : decode cX12_ask 93 = .ok (.istore 5, 2) := by decide +kernel
theorem dX12_ask_95 : decode cX12_ask 95 = .ok (.iload 5, 2) := by decide +kernel
theorem dX12_ask_97 : decode cX12_ask 97 = .ok (.iload_n 2, 1) := by decide +kernel
theorem dX12_ask_98 : decode cX12_ask 98 = .ok (.if_icmp .lt 6, 3) := by decide +kernel
theorem dX12_ask_101 : decode cX12_ask 101 = .ok (.goto 9, 3) := by decide +kernel
theorem dX12_ask_104 : decode cX12_ask 104 = .ok (.iload 5, 2) := by decide +kernel
theorem dX12_ask_106 : decode cX12_ask 106 = .ok (.istore_n 2, 1) := by decide +kernel
theorem dX12_ask_107 : decode cX12_ask 107 = .ok (.iload 4, 2) := by decide +kernel
theorem dX12_ask_109 : decode cX12_ask 109 = .ok (.istore_n 3, 1) := by decide +kernel
theorem dX12_ask_110 : decode cX12_ask 110 = .ok (.iinc 4 1, 3) := by decide +kernel
theorem dX12_ask_113 : decode cX12_ask 113 = .ok (.goto (-95), 3) := by decide +kernel
theorem dX12_ask_116 : decode cX12_ask 116 = .ok (.iload_n 3, 1) := by decide +kernel
theorem dX12_ask_117 : decode cX12_ask 117 = .ok (.ireturn, 1) := by decide +kernel
set_option maxRecDepth 20000 in
theorem ggX12_stricter_X12_isTown : GoodIn wsX12_stricter wsX12_isTown := goodIn_r _ [9, 3, 69, 70, 71, 72, 73, 74, 75, 76, 77, 78, 79, 80, 81, 82, 83, 84, 85, 86, 87, 88, 89, 90, 91, 92, 93, 94, 95, 96, 97, 98, 99, 100, 101, 102, 103, 104, 105, 106, 107, 108, 109, 110, 111, 112, 113, 114, 115, 116, 117, 118, 119, 120, 121, 122, 123, 124, 125] (by decide +kernel) (by decide +kernel)
set_option maxRecDepth 20000 in
theorem gX12_stricter_X12_isTown : GoodIn wsX12_stricter (wsV RX12 373 RX12 yX12_isTown wsX12_isTown) := goodIn_app (goodIn_of _ (by decide +kernel)) ggX12_stricter_X12_isTown
set_option maxRecDepth 20000 in
theorem ggX12_stricter_X12_within : GoodIn wsX12_stricter wsX12_within := goodIn_r _ [12] (by decide +kernel) (by decide +kernel)
set_option maxRecDepth 20000 in
theorem gX12_stricter_X12_within : GoodIn wsX12_stricter (va_wsS RX12 252 yX12_within wsX12_within) := goodIn_app (goodIn_of _ (by decide +kernel)) ggX12_stricter_X12_within
set_option maxRecDepth 20000 in
theorem ggX12_stricter_X12_reachFrom : GoodIn wsX12_stricter wsX12_reachFrom := goodIn_r _ [16, 17, 18, 19, 8, 20, 3, 21, 22, 23, 24, 25, 26, 27, 28, 29, 30, 4, 31, 32, 33, 34, 35, 2, 36, 37, 38, 39, 40, 41, 42, 43, 44, 45, 46, 47, 48, 49, 50, 51, 52, 53, 54, 55, 56, 57, 58, 59, 60, 61, 62, 63, 64, 65, 66, 67, 68, 69, 70, 71, 72, 73, 74, 75, 76, 77, 78, 79, 80, 81, 82, 83, 84, 85, 86, 87, 88, 89, 90, 91, 92, 93, 94, 95, 96, 97, 98, 99, 100, 101, 102, 103, 104, 105, 106, 107, 108, 109, 110, 111, 112, 113, 114, 115, 116, 117, 118, 119, 120, 121, 122, 123, 124, 125] (by decide +kernel) (by decide +kernel)
set_option maxRecDepth 20000 in
theorem gX12_stricter_X12_reachFrom : GoodIn wsX12_stricter (wsV RX12 419 RX12 yX12_reachFrom wsX12_reachFrom) := goodIn_app (goodIn_of _ (by decide +kernel)) ggX12_stricter_X12_reachFrom
theorem dX12_stricter_0 : decode cX12_stricter 0 = .ok (.aload_n 0, 1) := by decide +kernel
theorem dX12_stricter_1 : decode cX12_stricter 1 = .ok (.iconst 0, 1) := by decide +kernel
theorem dX12_stricter_2 : decode cX12_stricter 2 = .ok (.putfield 129, 3) := by decide +kernel
theorem dX12_stricter_5 : decode cX12_stricter 5 = .ok (.aload_n 0, 1) := by decide +kernel
theorem dX12_stricter_6 : decode cX12_stricter 6 = .ok (.iload_n 1, 1) := by decide +kernel
theorem dX12_stricter_7 : decode cX12_stricter 7 = .ok (.invokevirtual 373, 3) := by decide +kernel
theorem dX12_stricter_10 : decode cX12_stricter 10 = .ok (.ifCond .eq 13, 3) := by decide +kernel
theorem dX12_stricter_13 : decode cX12_stricter 13 = .ok (.iload_n 2, 1) := by decide +kernel
theorem dX12_stricter_14 : decode cX12_stricter 14 = .ok (.iconst 0, 1) := by decide +kernel
theorem dX12_stricter_15 : decode cX12_stricter 15 = .ok (.bipush 9, 2) := by decide +kernel
theorem dX12_stricter_17 : decode cX12_stricter 17 = .ok (.invokestatic 252, 3) := by decide +kernel
theorem dX12_stricter_20 : decode cX12_stricter 20 = .ok (.ifCond .ne 5, 3) := by decide +kernel
theorem dX12_stricter_23 : decode cX12_stricter 23 = .ok (.iconst (-1), 1) := by decide +kernel
theorem dX12_stricter_24 : decode cX12_stricter 24 = .ok (.ireturn, 1) := by decide +kernel
theorem dX12_stricter_25 : decode cX12_stricter 25 = .ok (.aload_n 0, 1) := by decide +kernel
theorem dX12_stricter_26 : decode cX12_stricter 26 = .ok (.iload_n 2, 1) := by decide +kernel
theorem dX12_stricter_27 : decode cX12_stricter 27 = .ok (.putfield 349, 3) := by decide +kernel
theorem dX12_stricter_30 : decode cX12_stricter 30 = .ok (.iconst 0, 1) := by decide +kernel
theorem dX12_stricter_31 : decode cX12_stricter 31 = .ok (.istore_n 3, 1) := by decide +kernel
theorem dX12_stricter_32 : decode cX12_stricter 32 = .ok (.iconst 0, 1) := by decide +kernel
theorem dX12_stricter_33 : decode cX12_stricter 33 = .ok (.istore 4, 2) := by decide +kernel
theorem dX12_stricter_35 : decode cX12_stricter 35 = .ok (.iload 4, 2) := by decide +kernel
theorem dX12_stricter_37 : decode cX12_stricter 37 = .ok (.aload_n 0, 1) := by decide +kernel
theorem dX12_stricter_38 : decode cX12_stricter 38 = .ok (.getfield 13, 3) := by decide +kernel
theorem dX12_stricter_41 : decode cX12_stricter 41 = .ok (.iconst 1, 1) := by decide +kernel
theorem dX12_stricter_42 : decode cX12_stricter 42 = .ok (.iaload, 1) := by decide +kernel
theorem dX12_stricter_43 : decode cX12_stricter 43 = .ok (.if_icmp .ge 36, 3) := by decide +kernel
theorem dX12_stricter_46 : decode cX12_stricter 46 = .ok (.iload_n 3, 1) := by decide +kernel
theorem dX12_stricter_47 : decode cX12_stricter 47 = .ok (.aload_n 0, 1) := by decide +kernel
theorem dX12_stricter_48 : decode cX12_stricter 48 = .ok (.iload 4, 2) := by decide +kernel
theorem dX12_stricter_50 : decode cX12_stricter 50 = .ok (.iconst 1, 1) := by decide +kernel
theorem dX12_stricter_51 : decode cX12_stricter 51 = .ok (.aload_n 0, 1) := by decide +kernel
theorem dX12_stricter_52 : decode cX12_stricter 52 = .ok (.getfield 108, 3) := by decide +kernel
theorem dX12_stricter_55 : decode cX12_stricter 55 = .ok (.iconst 1, 1) := by decide +kernel
theorem dX12_stricter_56 : decode cX12_stricter 56 = .ok (.iload 4, 2) := by decide +kernel
theorem dX12_stricter_58 : decode cX12_stricter 58 = .ok (.iadd, 1) := by decide +kernel
theorem dX12_stricter_59 : decode cX12_stricter 59 = .ok (.iaload, 1) := by decide +kernel
theorem dX12_stricter_60 : decode cX12_stricter 60 = .ok (.ishl, 1) := by decide +kernel
theorem dX12_stricter_61 : decode cX12_stricter 61 = .ok (.invokevirtual 419, 3) := by decide +kernel
theorem dX12_stricter_64 : decode cX12_stricter 64 = .ok (.iload_n 1, 1) := by decide +kernel
theorem dX12_stricter_65 : decode cX12_stricter 65 = .ok (.ishr, 1) := by decide +kernel
theorem dX12_stricter_66 : decode cX12_stricter 66 = .ok (.iconst 1, 1) := by decide +kernel
theorem dX12_stricter_67 : decode cX12_stricter 67 = .ok (.iand, 1) := by decide +kernel
theorem dX12_stricter_68 : decode cX12_stricter 68 = .ok (.iload 4, 2) := by decide +kernel
theorem dX12_stricter_70 : decode cX12_stricter 70 = .ok (.ishl, 1) := by decide +kernel
theorem dX12_stricter_71 : decode cX12_stricter 71 = .ok (.ior, 1) := by decide +kernel
theorem dX12_stricter_72 : decode cX12_stricter 72 = .ok (.istore_n 3, 1) := by decide +kernel
theorem dX12_stricter_73 : decode cX12_stricter 73 = .ok (.iinc 4 1, 3) := by decide +kernel
theorem dX12_stricter_76 : decode cX12_stricter 76 = .ok (.goto (-41), 3) := by decide +kernel
theorem dX12_stricter_79 : decode cX12_stricter 79 = .ok (.aload_n 0, 1) := by decide +kernel
theorem dX12_stricter_80 : decode cX12_stricter 80 = .ok (.iconst 0, 1) := by decide +kernel
theorem dX12_stricter_81 : decode cX12_stricter 81 = .ok (.putfield 349, 3) := by decide +kernel
theorem dX12_stricter_84 : decode cX12_stricter 84 = .ok (.iload_n 3, 1) := by decide +kernel
theorem dX12_stricter_85 : decode cX12_stricter 85 = .ok (.ireturn, 1) := by decide +kernel
theorem dX12_guardGets_0 : decode cX12_guardGets 0 = .ok (.iload_n 3, 1) := by decide +kernel
theorem dX12_guardGets_1 : decode cX12_guardGets 1 = .ok (.iconst 1, 1) := by decide +kernel
theorem dX12_guardGets_2 : decode cX12_guardGets 2 = .ok (.if_icmp .ne 17, 3) := by decide +kernel
theorem dX12_guardGets_5 : decode cX12_guardGets 5 = .ok (.iload_n 2, 1) := by decide +kernel
theorem dX12_guardGets_6 : decode cX12_guardGets 6 = .ok (.iconst 1, 1) := by decide +kernel
theorem dX12_guardGets_7 : decode cX12_guardGets 7 = .ok (.if_icmp .ne 7, 3) := by decide +kernel
theorem dX12_guardGets_10 : decode cX12_guardGets 10 = .ok (.iload_n 0, 1) := by decide +kernel
theorem dX12_guardGets_11 : decode cX12_guardGets 11 = .ok (.goto 18, 3) := by decide +kernel
theorem dX12_guardGets_14 : decode cX12_guardGets 14 = .ok (.iload_n 1, 1) := by decide +kernel
theorem dX12_guardGets_15 : decode cX12_guardGets 15 = .ok (.ineg, 1) := by decide +kernel
theorem dX12_guardGets_16 : decode cX12_guardGets 16 = .ok (.goto 13, 3) := by decide +kernel
theorem dX12_guardGets_19 : decode cX12_guardGets 19 = .ok (.iload_n 2, 1) := by decide +kernel
theorem dX12_guardGets_20 : decode cX12_guardGets 20 = .ok (.iconst 1, 1) := by decide +kernel
theorem dX12_guardGets_21 : decode cX12_guardGets 21 = .ok (.if_icmp .ne 7, 3) := by decide +kernel
theorem dX12_guardGets_24 : decode cX12_guardGets 24 = .ok (.iconst (-1), 1) := by decide +kernel
theorem dX12_guardGets_25 : decode cX12_guardGets 25 = .ok (.goto 4, 3) := by decide +kernel
theorem dX12_guardGets_28 : decode cX12_guardGets 28 = .ok (.iconst 0, 1) := by decide +kernel
theorem dX12_guardGets_29 : decode cX12_guardGets 29 = .ok (.ireturn, 1) := by decide +kernel
theorem dX12_travellerGets_0 : decode cX12_travellerGets 0 = .ok (.iload_n 3, 1) := by decide +kernel
theorem dX12_travellerGets_1 : decode cX12_travellerGets 1 = .ok (.ifCond .ne 7, 3) := by decide +kernel
theorem dX12_travellerGets_4 : decode cX12_travellerGets 4 = .ok (.iconst 0, 1) := by decide +kernel
theorem dX12_travellerGets_5 : decode cX12_travellerGets 5 = .ok (.goto 14, 3) := by decide +kernel
theorem dX12_travellerGets_8 : decode cX12_travellerGets 8 = .ok (.iload_n 2, 1) := by decide +kernel
theorem dX12_travellerGets_9 : decode cX12_travellerGets 9 = .ok (.iconst 1, 1) := by decide +kernel
theorem dX12_travellerGets_10 : decode cX12_travellerGets 10 = .ok (.if_icmp .ne 8, 3) := by decide +kernel
theorem dX12_travellerGets_13 : decode cX12_travellerGets 13 = .ok (.iload_n 0, 1) := by decide +kernel
theorem dX12_travellerGets_14 : decode cX12_travellerGets 14 = .ok (.ineg, 1) := by decide +kernel
theorem dX12_travellerGets_15 : decode cX12_travellerGets 15 = .ok (.goto 4, 3) := by decide +kernel
theorem dX12_travellerGets_18 : decode cX12_travellerGets 18 = .ok (.iload_n 1, 1) := by decide +kernel
theorem dX12_travellerGets_19 : decode cX12_travellerGets 19 = .ok (.ireturn, 1) := by decide +kernel
set_option maxRecDepth 20000 in
theorem ggX12_rests_X12_within : GoodIn wsX12_rests wsX12_within := goodIn_r _ [5] (by decide +kernel) (by decide +kernel)
set_option maxRecDepth 20000 in
theorem gX12_rests_X12_within : GoodIn wsX12_rests (va_wsS RX12 252 yX12_within wsX12_within) := goodIn_app (goodIn_of _ (by decide +kernel)) ggX12_rests_X12_within
set_option maxRecDepth 20000 in
theorem ggX12_rests_X12_guardGets : GoodIn wsX12_rests wsX12_guardGets := goodIn_r _ [8] (by decide +kernel) (by decide +kernel)
set_option maxRecDepth 20000 in
theorem gX12_rests_X12_guardGets : GoodIn wsX12_rests (va_wsS RX12 447 yX12_guardGets wsX12_guardGets) := goodIn_app (goodIn_of _ (by decide +kernel)) ggX12_rests_X12_guardGets
set_option maxRecDepth 20000 in
theorem ggX12_rests_X12_travellerGets : GoodIn wsX12_rests wsX12_travellerGets := goodIn_r _ [11] (by decide +kernel) (by decide +kernel)
set_option maxRecDepth 20000 in
theorem gX12_rests_X12_travellerGets : GoodIn wsX12_rests (va_wsS RX12 451 yX12_travellerGets wsX12_travellerGets) := goodIn_app (goodIn_of _ (by decide +kernel)) ggX12_rests_X12_travellerGets
theorem dX12_rests_0 : decode cX12_rests 0 = .ok (.aload_n 0, 1) := by decide +kernel
theorem dX12_rests_1 : decode cX12_rests 1 = .ok (.iload_n 1, 1) := by decide +kernel
theorem dX12_rests_2 : decode cX12_rests 2 = .ok (.iconst 0, 1) := by decide +kernel
theorem dX12_rests_3 : decode cX12_rests 3 = .ok (.bipush 9, 2) := by decide +kernel
theorem dX12_rests_5 : decode cX12_rests 5 = .ok (.invokestatic 252, 3) := by decide +kernel
theorem dX12_rests_8 : decode cX12_rests 8 = .ok (.ifCond .eq 22, 3) := by decide +kernel
theorem dX12_rests_11 : decode cX12_rests 11 = .ok (.iload_n 2, 1) := by decide +kernel
theorem dX12_rests_12 : decode cX12_rests 12 = .ok (.iconst 0, 1) := by decide +kernel
theorem dX12_rests_13 : decode cX12_rests 13 = .ok (.bipush 9, 2) := by decide +kernel
theorem dX12_rests_15 : decode cX12_rests 15 = .ok (.invokestatic 252, 3) := by decide +kernel
theorem dX12_rests_18 : decode cX12_rests 18 = .ok (.ifCond .eq 12, 3) := by decide +kernel
theorem dX12_rests_21 : decode cX12_rests 21 = .ok (.iload_n 3, 1) := by decide +kernel
theorem dX12_rests_22 : decode cX12_rests 22 = .ok (.iconst (-1), 1) := by decide +kernel
theorem dX12_rests_23 : decode cX12_rests 23 = .ok (.if_icmp .lt 7, 3) := by decide +kernel
theorem dX12_rests_26 : decode cX12_rests 26 = .ok (.iconst 0, 1) := by decide +kernel
theorem dX12_rests_27 : decode cX12_rests 27 = .ok (.goto 4, 3) := by decide +kernel
theorem dX12_rests_30 : decode cX12_rests 30 = .ok (.iconst 1, 1) := by decide +kernel
theorem dX12_rests_31 : decode cX12_rests 31 = .ok (.putfield 129, 3) := by decide +kernel
theorem dX12_rests_34 : decode cX12_rests 34 = .ok (.aload_n 0, 1) := by decide +kernel
theorem dX12_rests_35 : decode cX12_rests 35 = .ok (.getfield 129, 3) := by decide +kernel
theorem dX12_rests_38 : decode cX12_rests 38 = .ok (.iconst 1, 1) := by decide +kernel
theorem dX12_rests_39 : decode cX12_rests 39 = .ok (.if_icmp .ne 5, 3) := by decide +kernel
theorem dX12_rests_42 : decode cX12_rests 42 = .ok (.iconst 0, 1) := by decide +kernel
theorem dX12_rests_43 : decode cX12_rests 43 = .ok (.ireturn, 1) := by decide +kernel
theorem dX12_rests_44 : decode cX12_rests 44 = .ok (.iconst 0, 1) := by decide +kernel
theorem dX12_rests_45 : decode cX12_rests 45 = .ok (.istore 4, 2) := by decide +kernel
theorem dX12_rests_47 : decode cX12_rests 47 = .ok (.iconst 0, 1) := by decide +kernel
theorem dX12_rests_48 : decode cX12_rests 48 = .ok (.istore 5, 2) := by decide +kernel
theorem dX12_rests_50 : decode cX12_rests 50 = .ok (.iload 5, 2) := by decide +kernel
theorem dX12_rests_52 : decode cX12_rests 52 = .ok (.iconst 4, 1) := by decide +kernel
theorem dX12_rests_53 : decode cX12_rests 53 = .ok (.if_icmp .ge 82, 3) := by decide +kernel
theorem dX12_rests_56 : decode cX12_rests 56 = .ok (.iload 5, 2) := by decide +kernel
theorem dX12_rests_58 : decode cX12_rests 58 = .ok (.iconst 2, 1) := by decide +kernel
theorem dX12_rests_59 : decode cX12_rests 59 = .ok (.idiv, 1) := by decide +kernel
theorem dX12_rests_60 : decode cX12_rests 60 = .ok (.istore 6, 2) := by decide +kernel
theorem dX12_rests_62 : decode cX12_rests 62 = .ok (.iload 5, 2) := by decide +kernel
theorem dX12_rests_64 : decode cX12_rests 64 = .ok (.iconst 2, 1) := by decide +kernel
theorem dX12_rests_65 : decode cX12_rests 65 = .ok (.irem, 1) := by decide +kernel
theorem dX12_rests_66 : decode cX12_rests 66 = .ok (.istore 7, 2) := by decide +kernel
theorem dX12_rests_68 : decode cX12_rests 68 = .ok (.iload_n 1, 1) := by decide +kernel
theorem dX12_rests_69 : decode cX12_rests 69 = .ok (.iload_n 2, 1) := by decide +kernel
theorem dX12_rests_70 : decode cX12_rests 70 = .ok (.iconst 1, 1) := by decide +kernel
theorem dX12_rests_71 : decode cX12_rests 71 = .ok (.iload 6, 2) := by decide +kernel
theorem dX12_rests_73 : decode cX12_rests 73 = .ok (.isub, 1) := by decide +kernel
theorem dX12_rests_74 : decode cX12_rests 74 = .ok (.iload 7, 2) := by decide +kernel
theorem dX12_rests_76 : decode cX12_rests 76 = .ok (.invokestatic 447, 3) := by decide +kernel
theorem dX12_rests_79 : decode cX12_rests 79 = .ok (.iload_n 1, 1) := by decide +kernel
theorem dX12_rests_80 : decode cX12_rests 80 = .ok (.iload_n 2, 1) := by decide +kernel
theorem dX12_rests_81 : decode cX12_rests 81 = .ok (.iload 6, 2) := by decide +kernel
theorem dX12_rests_83 : decode cX12_rests 83 = .ok (.iload 7, 2) := by decide +kernel
theorem dX12_rests_85 : decode cX12_rests 85 = .ok (.invokestatic 447, 3) := by decide +kernel
theorem dX12_rests_88 : decode cX12_rests 88 = .ok (.if_icmp .gt 41, 3) := by decide +kernel
theorem dX12_rests_91 : decode cX12_rests 91 = .ok (.iload_n 1, 1) := by decide +kernel
theorem dX12_rests_92 : decode cX12_rests 92 = .ok (.iload_n 2, 1) := by decide +kernel
theorem dX12_rests_93 : decode cX12_rests 93 = .ok (.iload 6, 2) := by decide +kernel
theorem dX12_rests_95 : decode cX12_rests 95 = .ok (.iconst 1, 1) := by decide +kernel
theorem dX12_rests_96 : decode cX12_rests 96 = .ok (.iload 7, 2) := by decide +kernel
theorem dX12_rests_98 : decode cX12_rests 98 = .ok (.isub, 1) := by decide +kernel
theorem dX12_rests_99 : decode cX12_rests 99 = .ok (.invokestatic 451, 3) := by decide +kernel
theorem dX12_rests_102 : decode cX12_rests 102 = .ok (.iload_n 1, 1) := by decide +kernel
theorem dX12_rests_103 : decode cX12_rests 103 = .ok (.iload_n 2, 1) := by decide +kernel
theorem dX12_rests_104 : decode cX12_rests 104 = .ok (.iload 6, 2) := by decide +kernel
theorem dX12_rests_106 : decode cX12_rests 106 = .ok (.iload 7, 2) := by decide +kernel
theorem dX12_rests_108 : decode cX12_rests 108 = .ok (.invokestatic 451, 3) := by decide +kernel
theorem dX12_rests_111 : decode cX12_rests 111 = .ok (.if_icmp .le 6, 3) := by decide +kernel
theorem dX12_rests_114 : decode cX12_rests 114 = .ok (.goto 15, 3) := by decide +kernel
theorem dX12_rests_117 : decode cX12_rests 117 = .ok (.iload 4, 2) := by decide +kernel
theorem dX12_rests_119 : decode cX12_rests 119 = .ok (.iload_n 3, 1) := by decide +kernel
theorem dX12_rests_120 : decode cX12_rests 120 = .ok (.if_icmp .ne 6, 3) := by decide +kernel
theorem dX12_rests_123 : decode cX12_rests 123 = .ok (.iload 5, 2) := by decide +kernel
theorem dX12_rests_125 : decode cX12_rests 125 = .ok (.ireturn, 1) := by decide +kernel
theorem dX12_rests_126 : decode cX12_rests 126 = .ok (.iinc 4 1, 3) := by decide +kernel
theorem dX12_rests_129 : decode cX12_rests 129 = .ok (.iinc 5 1, 3) := by decide +kernel
theorem dX12_rests_132 : decode cX12_rests 132 = .ok (.goto (-82), 3) := by decide +kernel
theorem dX12_rests_135 : decode cX12_rests 135 = .ok (.aload_n 0, 1) := by decide +kernel
theorem dX12_rests_136 : decode cX12_rests 136 = .ok (.iload_n 3, 1) := by decide +kernel
theorem dX12_rests_137 : decode cX12_rests 137 = .ok (.iconst (-1), 1) := by decide +kernel
theorem dX12_rests_138 : decode cX12_rests 138 = .ok (.if_icmp .ne 7, 3) := by decide +kernel
theorem dX12_rests_141 : decode cX12_rests 141 = .ok (.iconst 0, 1) := by decide +kernel
theorem dX12_rests_142 : decode cX12_rests 142 = .ok (.goto 4, 3) := by decide +kernel
theorem dX12_rests_145 : decode cX12_rests 145 = .ok (.iconst 1, 1) := by decide +kernel
theorem dX12_rests_146 : decode cX12_rests 146 = .ok (.putfield 129, 3) := by decide +kernel
theorem dX12_rests_149 : decode cX12_rests 149 = .ok (.iload_n 3, 1) := by decide +kernel
theorem dX12_rests_150 : decode cX12_rests 150 = .ok (.iconst (-1), 1) := by decide +kernel
theorem dX12_rests_151 : decode cX12_rests 151 = .ok (.if_icmp .ne 8, 3) := by decide +kernel
theorem dX12_rests_154 : decode cX12_rests 154 = .ok (.iload 4, 2) := by decide +kernel
theorem dX12_rests_156 : decode cX12_rests 156 = .ok (.goto 4, 3) := by decide +kernel
theorem dX12_rests_159 : decode cX12_rests 159 = .ok (.iconst 0, 1) := by decide +kernel
theorem dX12_rests_160 : decode cX12_rests 160 = .ok (.ireturn, 1) := by decide +kernel
set_option maxRecDepth 20000 in
theorem ggX12_livesWeek_X12_draws : GoodIn wsX12_livesWeek wsX12_draws := goodIn_r _ [10, 11, 12, 13, 14, 15, 84, 85, 86, 87, 88, 89, 90, 91, 92, 93, 94, 95, 96, 97, 98, 99, 100, 101, 102, 103, 104, 105, 106, 107, 108, 109, 110, 111, 112, 113, 114, 115, 116, 117, 118, 119, 120, 121, 122, 123, 124, 125, 126, 127, 128, 129, 130, 131, 132, 133, 134, 135, 136, 137, 138, 139, 140] (by decide +kernel) (by decide +kernel)
set_option maxRecDepth 20000 in
theorem gX12_livesWeek_X12_draws : GoodIn wsX12_livesWeek (wsV RX12 465 RX12 yX12_draws wsX12_draws) := goodIn_app (goodIn_of _ (by decide +kernel)) ggX12_livesWeek_X12_draws
set_option maxRecDepth 20000 in
theorem ggX12_livesWeek_X12_canGo : GoodIn wsX12_livesWeek wsX12_canGo := goodIn_r _ [19, 2, 3, 20, 21, 22, 9, 23, 24, 25, 26, 27, 28, 1, 29, 30, 31, 32, 33, 34, 35, 36, 37, 38, 39, 40, 41, 42, 43, 44, 45, 46, 47, 48, 49, 50, 51, 52, 53, 54, 55, 56, 57, 58, 59, 60, 61, 62, 63, 64, 65, 66, 67, 84, 85, 86, 87, 88, 89, 90, 91, 92, 93, 94, 95, 96, 97, 98, 99, 100, 101, 102, 103, 104, 105, 106, 107, 108, 109, 110, 111, 112, 113, 114, 115, 116, 117, 118, 119, 120, 121, 122, 123, 124, 125, 126, 127, 128, 129, 130, 131, 132, 133, 134, 135, 136, 137, 138, 139, 140] (by decide +kernel) (by decide +kernel)
set_option maxRecDepth 20000 in
theorem gX12_livesWeek_X12_canGo : GoodIn wsX12_livesWeek (wsV RX12 383 RX12 yX12_canGo wsX12_canGo) := goodIn_app (goodIn_of _ (by decide +kernel)) ggX12_livesWeek_X12_canGo
set_option maxRecDepth 20000 in
theorem ggX12_livesWeek_X12_goes : GoodIn wsX12_livesWeek wsX12_goes := goodIn_r _ [71, 3, 84, 85, 86, 87, 88, 89, 90, 91, 92, 93, 94, 95, 96, 97, 98, 99, 100, 101, 102, 103, 104, 105, 106, 107, 108, 109, 110, 111, 112, 113, 114, 115, 116, 117, 118, 119, 120, 121, 122, 123, 124, 125, 126, 127, 128, 129, 130, 131, 132, 133, 134, 135, 136, 137, 138, 139, 140] (by decide +kernel) (by decide +kernel)
set_option maxRecDepth 20000 in
theorem gX12_livesWeek_X12_goes : GoodIn wsX12_livesWeek (wsV RX12 389 RX12 yX12_goes wsX12_goes) := goodIn_app (goodIn_of _ (by decide +kernel)) ggX12_livesWeek_X12_goes
set_option maxRecDepth 20000 in
theorem ggX12_livesWeek_X12_shaves : GoodIn wsX12_livesWeek wsX12_shaves := goodIn_r _ [75, 3, 84, 85, 86, 87, 88, 89, 90, 91, 92, 93, 94, 95, 96, 97, 98, 99, 100, 101, 102, 103, 104, 105, 106, 107, 108, 109, 110, 111, 112, 113, 114, 115, 116, 117, 118, 119, 120, 121, 122, 123, 124, 125, 126, 127, 128, 129, 130, 131, 132, 133, 134, 135, 136, 137, 138, 139, 140] (by decide +kernel) (by decide +kernel)
set_option maxRecDepth 20000 in
theorem gX12_livesWeek_X12_shaves : GoodIn wsX12_livesWeek (wsV RX12 398 RX12 yX12_shaves wsX12_shaves) := goodIn_app (goodIn_of _ (by decide +kernel)) ggX12_livesWeek_X12_shaves
set_option maxRecDepth 20000 in
theorem ggX12_livesWeek_X12_passes : GoodIn wsX12_livesWeek wsX12_passes := goodIn_r _ [79, 1, 24, 3, 80, 81, 82, 83, 84, 85, 86, 87, 88, 89, 90, 91, 92, 93, 94, 95, 96, 97, 98, 99, 100, 101, 102, 103, 104, 105, 106, 107, 108, 109, 110, 111, 112, 113, 114, 115, 116, 117, 118, 119, 120, 121, 122, 123, 124, 125, 126, 127, 128, 129, 130, 131, 132, 133, 134, 135, 136, 137, 138, 139, 140] (by decide +kernel) (by decide +kernel)
set_option maxRecDepth 20000 in
theorem gX12_livesWeek_X12_passes : GoodIn wsX12_livesWeek (wsV RX12 401 RX12 yX12_passes wsX12_passes) := goodIn_app (goodIn_of _ (by decide +kernel)) ggX12_livesWeek_X12_passes
theorem dX12_livesWeek_0 : decode cX12_livesWeek 0 = .ok (.iconst 0, 1) := by decide +kernel
theorem dX12_livesWeek_1 : decode cX12_livesWeek 1 = .ok (.istore_n 1, 1) := by decide +kernel
theorem dX12_livesWeek_2 : decode cX12_livesWeek 2 = .ok (.iload_n 1, 1) := by decide +kernel
theorem dX12_livesWeek_3 : decode cX12_livesWeek 3 = .ok (.aload_n 0, 1) := by decide +kernel
theorem dX12_livesWeek_4 : decode cX12_livesWeek 4 = .ok (.getfield 13, 3) := by decide +kernel
theorem dX12_livesWeek_7 : decode cX12_livesWeek 7 = .ok (.iconst 1, 1) := by decide +kernel
theorem dX12_livesWeek_8 : decode cX12_livesWeek 8 = .ok (.iaload, 1) := by decide +kernel
theorem dX12_livesWeek_9 : decode cX12_livesWeek 9 = .ok (.if_icmp .ge 93, 3) := by decide +kernel
theorem dX12_livesWeek_12 : decode cX12_livesWeek 12 = .ok (.aload_n 0, 1) := by decide +kernel
theorem dX12_livesWeek_13 : decode cX12_livesWeek 13 = .ok (.aload_n 0, 1) := by decide +kernel
theorem dX12_livesWeek_14 : decode cX12_livesWeek 14 = .ok (.getfield 13, 3) := by decide +kernel
theorem dX12_livesWeek_17 : decode cX12_livesWeek 17 = .ok (.iconst 0, 1) := by decide +kernel
theorem dX12_livesWeek_18 : decode cX12_livesWeek 18 = .ok (.iaload, 1) := by decide +kernel
theorem dX12_livesWeek_19 : decode cX12_livesWeek 19 = .ok (.invokevirtual 465, 3) := by decide +kernel
theorem dX12_livesWeek_22 : decode cX12_livesWeek 22 = .ok (.istore_n 2, 1) := by decide +kernel
theorem dX12_livesWeek_23 : decode cX12_livesWeek 23 = .ok (.aload_n 0, 1) := by decide +kernel
theorem dX12_livesWeek_24 : decode cX12_livesWeek 24 = .ok (.getfield 26, 3) := by decide +kernel
theorem dX12_livesWeek_27 : decode cX12_livesWeek 27 = .ok (.aload_n 0, 1) := by decide +kernel
theorem dX12_livesWeek_28 : decode cX12_livesWeek 28 = .ok (.getfield 108, 3) := by decide +kernel
theorem dX12_livesWeek_31 : decode cX12_livesWeek 31 = .ok (.iconst 1, 1) := by decide +kernel
theorem dX12_livesWeek_32 : decode cX12_livesWeek 32 = .ok (.iload_n 1, 1) := by decide +kernel
theorem dX12_livesWeek_33 : decode cX12_livesWeek 33 = .ok (.iadd, 1) := by decide +kernel
theorem dX12_livesWeek_34 : decode cX12_livesWeek 34 = .ok (.iaload, 1) := by decide +kernel
theorem dX12_livesWeek_35 : decode cX12_livesWeek 35 = .ok (.iaload, 1) := by decide +kernel
theorem dX12_livesWeek_36 : decode cX12_livesWeek 36 = .ok (.iload_n 2, 1) := by decide +kernel
theorem dX12_livesWeek_37 : decode cX12_livesWeek 37 = .ok (.ishr, 1) := by decide +kernel
theorem dX12_livesWeek_38 : decode cX12_livesWeek 38 = .ok (.iconst 1, 1) := by decide +kernel
theorem dX12_livesWeek_39 : decode cX12_livesWeek 39 = .ok (.iand, 1) := by decide +kernel
theorem dX12_livesWeek_40 : decode cX12_livesWeek 40 = .ok (.iconst 1, 1) := by decide +kernel
theorem dX12_livesWeek_41 : decode cX12_livesWeek 41 = .ok (.if_icmp .ne 41, 3) := by decide +kernel
theorem dX12_livesWeek_44 : decode cX12_livesWeek 44 = .ok (.aload_n 0, 1) := by decide +kernel
theorem dX12_livesWeek_45 : decode cX12_livesWeek 45 = .ok (.iload_n 1, 1) := by decide +kernel
theorem dX12_livesWeek_46 : decode cX12_livesWeek 46 = .ok (.iload_n 2, 1) := by decide +kernel
theorem dX12_livesWeek_47 : decode cX12_livesWeek 47 = .ok (.invokevirtual 383, 3) := by decide +kernel
theorem dX12_livesWeek_50 : decode cX12_livesWeek 50 = .ok (.ifCond .eq 22, 3) := by decide +kernel
theorem dX12_livesWeek_53 : decode cX12_livesWeek 53 = .ok (.aload_n 0, 1) := by decide +kernel
theorem dX12_livesWeek_54 : decode cX12_livesWeek 54 = .ok (.iload_n 1, 1) := by decide +kernel
theorem dX12_livesWeek_55 : decode cX12_livesWeek 55 = .ok (.iload_n 2, 1) := by decide +kernel
theorem dX12_livesWeek_56 : decode cX12_livesWeek 56 = .ok (.invokevirtual 389, 3) := by decide +kernel
theorem dX12_livesWeek_59 : decode cX12_livesWeek 59 = .ok (.aload_n 0, 1) := by decide +kernel
theorem dX12_livesWeek_60 : decode cX12_livesWeek 60 = .ok (.dup, 1) := by decide +kernel
theorem dX12_livesWeek_61 : decode cX12_livesWeek 61 = .ok (.getfield 468, 3) := by decide +kernel
theorem dX12_livesWeek_64 : decode cX12_livesWeek 64 = .ok (.iconst 1, 1) := by decide +kernel
theorem dX12_livesWeek_65 : decode cX12_livesWeek 65 = .ok (.iadd, 1) := by decide +kernel
theorem dX12_livesWeek_66 : decode cX12_livesWeek 66 = .ok (.putfield 468, 3) := by decide +kernel
theorem dX12_livesWeek_69 : decode cX12_livesWeek 69 = .ok (.goto 13, 3) := by decide +kernel
theorem dX12_livesWeek_72 : decode cX12_livesWeek 72 = .ok (.aload_n 0, 1) := by decide +kernel
theorem dX12_livesWeek_73 : decode cX12_livesWeek 73 = .ok (.dup, 1) := by decide +kernel
theorem dX12_livesWeek_74 : decode cX12_livesWeek 74 = .ok (.getfield 471, 3) := by decide +kernel
theorem dX12_livesWeek_77 : decode cX12_livesWeek 77 = .ok (.iconst 1, 1) := by decide +kernel
theorem dX12_livesWeek_78 : decode cX12_livesWeek 78 = .ok (.iadd, 1) := by decide +kernel
theorem dX12_livesWeek_79 : decode cX12_livesWeek 79 = .ok (.putfield 471, 3) := by decide +kernel
theorem dX12_livesWeek_82 : decode cX12_livesWeek 82 = .ok (.aload_n 0, 1) := by decide +kernel
theorem dX12_livesWeek_83 : decode cX12_livesWeek 83 = .ok (.bipush 20, 2) := by decide +kernel
theorem dX12_livesWeek_85 : decode cX12_livesWeek 85 = .ok (.invokevirtual 465, 3) := by decide +kernel
theorem dX12_livesWeek_88 : decode cX12_livesWeek 88 = .ok (.ifCond .ne 8, 3) := by decide +kernel
theorem dX12_livesWeek_91 : decode cX12_livesWeek 91 = .ok (.aload_n 0, 1) := by decide +kernel
theorem dX12_livesWeek_92 : decode cX12_livesWeek 92 = .ok (.iload_n 1, 1) := by decide +kernel
theorem dX12_livesWeek_93 : decode cX12_livesWeek 93 = .ok (.invokevirtual 398, 3) := by decide +kernel
theorem dX12_livesWeek_96 : decode cX12_livesWeek 96 = .ok (.iinc 1 1, 3) := by decide +kernel
theorem dX12_livesWeek_99 : decode cX12_livesWeek 99 = .ok (.goto (-97), 3) := by decide +kernel
theorem dX12_livesWeek_102 : decode cX12_livesWeek 102 = .ok (.aload_n 0, 1) := by decide +kernel
theorem dX12_livesWeek_103 : decode cX12_livesWeek 103 = .ok (.invokevirtual 401, 3) := by decide +kernel
theorem dX12_livesWeek_106 : decode cX12_livesWeek 106 = .ok (.return_, 1) := by decide +kernel
set_option maxRecDepth 20000 in
theorem ggX12_years_X12_within : GoodIn wsX12_years wsX12_within := goodIn_r _ [10] (by decide +kernel) (by decide +kernel)
set_option maxRecDepth 20000 in
theorem gX12_years_X12_within : GoodIn wsX12_years (va_wsS RX12 252 yX12_within wsX12_within) := goodIn_app (goodIn_of _ (by decide +kernel)) ggX12_years_X12_within
set_option maxRecDepth 20000 in
theorem ggX12_years_X12_copies : GoodIn wsX12_years wsX12_copies := goodIn_r _ [13] (by decide +kernel) (by decide +kernel)
set_option maxRecDepth 20000 in
theorem gX12_years_X12_copies : GoodIn wsX12_years (va_wsS RX12 379 yX12_copies wsX12_copies) := goodIn_app (goodIn_of _ (by decide +kernel)) ggX12_years_X12_copies
set_option maxRecDepth 20000 in
theorem ggX12_years_X12_livesWeek : GoodIn wsX12_years wsX12_livesWeek := goodIn_r _ [17, 18, 19, 5, 3, 4, 20, 21, 22, 9, 23, 2, 24, 25, 26, 27, 28, 29, 30, 31, 32, 33, 34, 35, 36, 37, 38, 39, 40, 41, 42, 43, 44, 45, 46, 47, 48, 49, 50, 51, 52, 53, 54, 55, 56, 57, 58, 59, 60, 61, 62, 63, 64, 65, 66, 67, 68, 69, 70, 71, 72, 73, 74, 75, 76, 77, 78, 79, 80, 81, 82, 83, 84, 85, 86, 87, 88, 89, 90, 91, 92, 93, 94, 95, 100, 101, 102, 103, 104, 105, 106, 107, 108, 109, 110, 111, 112, 113, 114, 115, 116, 117, 118, 119, 120, 121, 122, 123, 124, 125, 126, 127, 128, 129, 130, 131, 132, 133, 134, 135, 136, 137, 138, 139, 140, 141, 142, 143, 144, 145, 146, 147, 148, 149, 150, 151, 152, 153, 154, 155, 156] (by decide +kernel) (by decide +kernel)
set_option maxRecDepth 20000 in
theorem gX12_years_X12_livesWeek : GoodIn wsX12_years (wsV RX12 474 RX12 yX12_livesWeek wsX12_livesWeek) := goodIn_app (goodIn_of _ (by decide +kernel)) ggX12_years_X12_livesWeek
set_option maxRecDepth 20000 in
theorem ggX12_years_X12_peopled : GoodIn wsX12_years wsX12_peopled := goodIn_r _ [99, 18, 5, 100, 101, 102, 103, 104, 105, 106, 107, 108, 109, 110, 111, 112, 113, 114, 115, 116, 117, 118, 119, 120, 121, 122, 123, 124, 125, 126, 127, 128, 129, 130, 131, 132, 133, 134, 135, 136, 137, 138, 139, 140, 141, 142, 143, 144, 145, 146, 147, 148, 149, 150, 151, 152, 153, 154, 155, 156] (by decide +kernel) (by decide +kernel)
set_option maxRecDepth 20000 in
theorem gX12_years_X12_peopled : GoodIn wsX12_years (wsV RX12 477 RX12 yX12_peopled wsX12_peopled) := goodIn_app (goodIn_of _ (by decide +kernel)) ggX12_years_X12_peopled
theorem dX12_years_0 : decode cX12_years 0 = .ok (.aload_n 0, 1) := by decide +kernel
theorem dX12_years_1 : decode cX12_years 1 = .ok (.iconst 0, 1) := by decide +kernel
theorem dX12_years_2 : decode cX12_years 2 = .ok (.putfield 129, 3) := by decide +kernel
theorem dX12_years_5 : decode cX12_years 5 = .ok (.iload_n 1, 1) := by decide +kernel
theorem dX12_years_6 : decode cX12_years 6 = .ok (.iconst 0, 1) := by decide +kernel
theorem dX12_years_7 : decode cX12_years 7 = .ok (.sipush 9999, 3) := by decide +kernel
theorem dX12_years_10 : decode cX12_years 10 = .ok (.invokestatic 252, 3) := by decide +kernel
theorem dX12_years_13 : decode cX12_years 13 = .ok (.ifCond .eq 22, 3) := by decide +kernel
theorem dX12_years_16 : decode cX12_years 16 = .ok (.iload_n 2, 1) := by decide +kernel
theorem dX12_years_17 : decode cX12_years 17 = .ok (.iconst 1, 1) := by decide +kernel
theorem dX12_years_18 : decode cX12_years 18 = .ok (.bipush 99, 2) := by decide +kernel
theorem dX12_years_20 : decode cX12_years 20 = .ok (.invokestatic 252, 3) := by decide +kernel
theorem dX12_years_23 : decode cX12_years 23 = .ok (.ifCond .eq 12, 3) := by decide +kernel
theorem dX12_years_26 : decode cX12_years 26 = .ok (.iload_n 3, 1) := by decide +kernel
theorem dX12_years_27 : decode cX12_years 27 = .ok (.iconst 0, 1) := by decide +kernel
theorem dX12_years_28 : decode cX12_years 28 = .ok (.iconst 2, 1) := by decide +kernel
theorem dX12_years_29 : decode cX12_years 29 = .ok (.invokestatic 252, 3) := by decide +kernel
theorem dX12_years_32 : decode cX12_years 32 = .ok (.ifCond .ne 5, 3) := by decide +kernel
theorem dX12_years_35 : decode cX12_years 35 = .ok (.iconst (-1), 1) := by decide +kernel
theorem dX12_years_36 : decode cX12_years 36 = .ok (.ireturn, 1) := by decide +kernel
theorem dX12_years_37 : decode cX12_years 37 = .ok (.aload_n 0, 1) := by decide +kernel
theorem dX12_years_38 : decode cX12_years 38 = .ok (.iload_n 1, 1) := by decide +kernel
theorem dX12_years_39 : decode cX12_years 39 = .ok (.i2l, 1) := by decide +kernel
theorem dX12_years_40 : decode cX12_years 40 = .ok (.putfield 454, 3) := by decide +kernel
theorem dX12_years_43 : decode cX12_years 43 = .ok (.aload_n 0, 1) := by decide +kernel
theorem dX12_years_44 : decode cX12_years 44 = .ok (.iconst 0, 1) := by decide +kernel
theorem dX12_years_45 : decode cX12_years 45 = .ok (.putfield 468, 3) := by decide +kernel
theorem dX12_years_48 : decode cX12_years 48 = .ok (.aload_n 0, 1) := by decide +kernel
theorem dX12_years_49 : decode cX12_years 49 = .ok (.iconst 0, 1) := by decide +kernel
theorem dX12_years_50 : decode cX12_years 50 = .ok (.putfield 471, 3) := by decide +kernel
theorem dX12_years_53 : decode cX12_years 53 = .ok (.aload_n 0, 1) := by decide +kernel
theorem dX12_years_54 : decode cX12_years 54 = .ok (.getfield 108, 3) := by decide +kernel
theorem dX12_years_57 : decode cX12_years 57 = .ok (.iconst 0, 1) := by decide +kernel
theorem dX12_years_58 : decode cX12_years 58 = .ok (.aload_n 0, 1) := by decide +kernel
theorem dX12_years_59 : decode cX12_years 59 = .ok (.getfield 111, 3) := by decide +kernel
theorem dX12_years_62 : decode cX12_years 62 = .ok (.iconst 0, 1) := by decide +kernel
theorem dX12_years_63 : decode cX12_years 63 = .ok (.invokestatic 379, 3) := by decide +kernel
theorem dX12_years_66 : decode cX12_years 66 = .ok (.iconst 0, 1) := by decide +kernel
theorem dX12_years_67 : decode cX12_years 67 = .ok (.istore 4, 2) := by decide +kernel
theorem dX12_years_69 : decode cX12_years 69 = .ok (.iload 4, 2) := by decide +kernel
theorem dX12_years_71 : decode cX12_years 71 = .ok (.iload_n 2, 1) := by decide +kernel
theorem dX12_years_72 : decode cX12_years 72 = .ok (.if_icmp .ge 13, 3) := by decide +kernel
theorem dX12_years_75 : decode cX12_years 75 = .ok (.aload_n 0, 1) := by decide +kernel
theorem dX12_years_76 : decode cX12_years 76 = .ok (.invokevirtual 474, 3) := by decide +kernel
theorem dX12_years_79 : decode cX12_years 79 = .ok (.iinc 4 1, 3) := by decide +kernel
theorem dX12_years_82 : decode cX12_years 82 = .ok (.goto (-13), 3) := by decide +kernel
theorem dX12_years_85 : decode cX12_years 85 = .ok (.aload_n 0, 1) := by decide +kernel
theorem dX12_years_86 : decode cX12_years 86 = .ok (.invokevirtual 477, 3) := by decide +kernel
theorem dX12_years_89 : decode cX12_years 89 = .ok (.istore 4, 2) := by decide +kernel
theorem dX12_years_91 : decode cX12_years 91 = .ok (.aload_n 0, 1) := by decide +kernel
theorem dX12_years_92 : decode cX12_years 92 = .ok (.getfield 111, 3) := by decide +kernel
theorem dX12_years_95 : decode cX12_years 95 = .ok (.iconst 0, 1) := by decide +kernel
theorem dX12_years_96 : decode cX12_years 96 = .ok (.aload_n 0, 1) := by decide +kernel
theorem dX12_years_97 : decode cX12_years 97 = .ok (.getfield 108, 3) := by decide +kernel
theorem dX12_years_100 : decode cX12_years 100 = .ok (.iconst 0, 1) := by decide +kernel
theorem dX12_years_101 : decode cX12_years 101 = .ok (.invokestatic 379, 3) := by decide +kernel
theorem dX12_years_104 : decode cX12_years 104 = .ok (.iload_n 3, 1) := by decide +kernel
theorem dX12_years_105 : decode cX12_years 105 = .ok (.ifCond .ne 10, 3) := by decide +kernel
theorem dX12_years_108 : decode cX12_years 108 = .ok (.aload_n 0, 1) := by decide +kernel
theorem dX12_years_109 : decode cX12_years 109 = .ok (.getfield 468, 3) := by decide +kernel
theorem dX12_years_112 : decode cX12_years 112 = .ok (.goto 17, 3) := by decide +kernel
theorem dX12_years_115 : decode cX12_years 115 = .ok (.iload_n 3, 1) := by decide +kernel
theorem dX12_years_116 : decode cX12_years 116 = .ok (.iconst 1, 1) := by decide +kernel
theorem dX12_years_117 : decode cX12_years 117 = .ok (.if_icmp .ne 10, 3) := by decide +kernel
theorem dX12_years_120 : decode cX12_years 120 = .ok (.aload_n 0, 1) := by decide +kernel
theorem dX12_years_121 : decode cX12_years 121 = .ok (.getfield 471, 3) := by decide +kernel
theorem dX12_years_124 : decode cX12_years 124 = .ok (.goto 5, 3) := by decide +kernel
theorem dX12_years_127 : decode cX12_years 127 = .ok (.iload 4, 2) := by decide +kernel
theorem dX12_years_129 : decode cX12_years 129 = .ok (.ireturn, 1) := by decide +kernel
set_option maxRecDepth 20000 in
theorem ggX12_mark_X12_within : GoodIn wsX12_mark wsX12_within := goodIn_r _ [9] (by decide +kernel) (by decide +kernel)
set_option maxRecDepth 20000 in
theorem gX12_mark_X12_within : GoodIn wsX12_mark (va_wsS RX12 252 yX12_within wsX12_within) := goodIn_app (goodIn_of _ (by decide +kernel)) ggX12_mark_X12_within
set_option maxRecDepth 20000 in
theorem ggX12_mark_X12_laysLines : GoodIn wsX12_mark wsX12_laysLines := goodIn_r _ [13, 14, 15, 16, 17, 28, 29, 30, 31, 32, 33, 34, 35, 36, 37, 38, 39, 40, 41, 42, 43, 44, 45, 46, 47, 48, 49, 50, 51, 52, 53, 54, 55, 56, 57, 58, 59, 60, 61, 62, 63, 64, 65, 66, 67, 68, 69, 70, 71, 72, 73, 74, 75, 76, 77, 78, 79, 80, 81, 82, 83, 84] (by decide +kernel) (by decide +kernel)
set_option maxRecDepth 20000 in
theorem gX12_mark_X12_laysLines : GoodIn wsX12_mark (wsV RX12 342 RX12 yX12_laysLines wsX12_laysLines) := goodIn_app (goodIn_of _ (by decide +kernel)) ggX12_mark_X12_laysLines
set_option maxRecDepth 20000 in
theorem ggX12_mark_X12_laysSeen : GoodIn wsX12_mark wsX12_laysSeen := goodIn_r _ [21, 22, 23, 24, 28, 29, 30, 31, 32, 33, 34, 35, 36, 37, 38, 39, 40, 41, 42, 43, 44, 45, 46, 47, 48, 49, 50, 51, 52, 53, 54, 55, 56, 57, 58, 59, 60, 61, 62, 63, 64, 65, 66, 67, 68, 69, 70, 71, 72, 73, 74, 75, 76, 77, 78, 79, 80, 81, 82, 83, 84] (by decide +kernel) (by decide +kernel)
set_option maxRecDepth 20000 in
theorem gX12_mark_X12_laysSeen : GoodIn wsX12_mark (wsV RX12 480 RX12 yX12_laysSeen wsX12_laysSeen) := goodIn_app (goodIn_of _ (by decide +kernel)) ggX12_mark_X12_laysSeen
set_option maxRecDepth 20000 in
theorem ggX12_mark_X12_copies : GoodIn wsX12_mark wsX12_copies := goodIn_r _ [27] (by decide +kernel) (by decide +kernel)
set_option maxRecDepth 20000 in
theorem gX12_mark_X12_copies : GoodIn wsX12_mark (va_wsS RX12 379 yX12_copies wsX12_copies) := goodIn_app (goodIn_of _ (by decide +kernel)) ggX12_mark_X12_copies
theorem dX12_mark_0 : decode cX12_mark 0 = .ok (.aload_n 0, 1) := by decide +kernel
theorem dX12_mark_1 : decode cX12_mark 1 = .ok (.iconst 0, 1) := by decide +kernel
theorem dX12_mark_2 : decode cX12_mark 2 = .ok (.putfield 129, 3) := by decide +kernel
theorem dX12_mark_5 : decode cX12_mark 5 = .ok (.iload_n 1, 1) := by decide +kernel
theorem dX12_mark_6 : decode cX12_mark 6 = .ok (.iconst 0, 1) := by decide +kernel
theorem dX12_mark_7 : decode cX12_mark 7 = .ok (.iconst 3, 1) := by decide +kernel
theorem dX12_mark_8 : decode cX12_mark 8 = .ok (.invokestatic 252, 3) := by decide +kernel
theorem dX12_mark_11 : decode cX12_mark 11 = .ok (.ifCond .eq 16, 3) := by decide +kernel
theorem dX12_mark_14 : decode cX12_mark 14 = .ok (.iload_n 2, 1) := by decide +kernel
theorem dX12_mark_15 : decode cX12_mark 15 = .ok (.ifCond .eq 14, 3) := by decide +kernel
theorem dX12_mark_18 : decode cX12_mark 18 = .ok (.aload_n 0, 1) := by decide +kernel
theorem dX12_mark_19 : decode cX12_mark 19 = .ok (.getfield 123, 3) := by decide +kernel
theorem dX12_mark_22 : decode cX12_mark 22 = .ok (.iload_n 1, 1) := by decide +kernel
theorem dX12_mark_23 : decode cX12_mark 23 = .ok (.baload, 1) := by decide +kernel
theorem dX12_mark_24 : decode cX12_mark 24 = .ok (.ifCond .ne 5, 3) := by decide +kernel
theorem dX12_mark_27 : decode cX12_mark 27 = .ok (.iconst 0, 1) := by decide +kernel
theorem dX12_mark_28 : decode cX12_mark 28 = .ok (.ireturn, 1) := by decide +kernel
theorem dX12_mark_29 : decode cX12_mark 29 = .ok (.aload_n 0, 1) := by decide +kernel
theorem dX12_mark_30 : decode cX12_mark 30 = .ok (.getfield 123, 3) := by decide +kernel
theorem dX12_mark_33 : decode cX12_mark 33 = .ok (.iload_n 1, 1) := by decide +kernel
theorem dX12_mark_34 : decode cX12_mark 34 = .ok (.iconst 1, 1) := by decide +kernel
theorem dX12_mark_35 : decode cX12_mark 35 = .ok (.bastore, 1) := by decide +kernel
theorem dX12_mark_36 : decode cX12_mark 36 = .ok (.iload_n 2, 1) := by decide +kernel
theorem dX12_mark_37 : decode cX12_mark 37 = .ok (.ifCond .eq 9, 3) := by decide +kernel
theorem dX12_mark_40 : decode cX12_mark 40 = .ok (.iconst 1, 1) := by decide +kernel
theorem dX12_mark_41 : decode cX12_mark 41 = .ok (.iload_n 1, 1) := by decide +kernel
theorem dX12_mark_42 : decode cX12_mark 42 = .ok (.iadd, 1) := by decide +kernel
theorem dX12_mark_43 : decode cX12_mark 43 = .ok (.goto 4, 3) := by decide +kernel
theorem dX12_mark_46 : decode cX12_mark 46 = .ok (.iconst 0, 1) := by decide +kernel
theorem dX12_mark_47 : decode cX12_mark 47 = .ok (.istore_n 3, 1) := by decide +kernel
theorem dX12_mark_48 : decode cX12_mark 48 = .ok (.iload_n 2, 1) := by decide +kernel
theorem dX12_mark_49 : decode cX12_mark 49 = .ok (.ifCond .eq 7, 3) := by decide +kernel
theorem dX12_mark_52 : decode cX12_mark 52 = .ok (.iconst 0, 1) := by decide +kernel
theorem dX12_mark_53 : decode cX12_mark 53 = .ok (.goto 6, 3) := by decide +kernel
theorem dX12_mark_56 : decode cX12_mark 56 = .ok (.iconst 1, 1) := by decide +kernel
theorem dX12_mark_57 : decode cX12_mark 57 = .ok (.iload_n 1, 1) := by decide +kernel
theorem dX12_mark_58 : decode cX12_mark 58 = .ok (.iadd, 1) := by decide +kernel
theorem dX12_mark_59 : decode cX12_mark 59 = .ok (.istore 4, 2) := by decide +kernel
theorem dX12_mark_61 : decode cX12_mark 61 = .ok (.aload_n 0, 1) := by decide +kernel
theorem dX12_mark_62 : decode cX12_mark 62 = .ok (.iload_n 3, 1) := by decide +kernel
theorem dX12_mark_63 : decode cX12_mark 63 = .ok (.iload 4, 2) := by decide +kernel
theorem dX12_mark_65 : decode cX12_mark 65 = .ok (.invokevirtual 342, 3) := by decide +kernel
theorem dX12_mark_68 : decode cX12_mark 68 = .ok (.aload_n 0, 1) := by decide +kernel
theorem dX12_mark_69 : decode cX12_mark 69 = .ok (.iload_n 3, 1) := by decide +kernel
theorem dX12_mark_70 : decode cX12_mark 70 = .ok (.iload 4, 2) := by decide +kernel
theorem dX12_mark_72 : decode cX12_mark 72 = .ok (.invokevirtual 480, 3) := by decide +kernel
theorem dX12_mark_75 : decode cX12_mark 75 = .ok (.iload_n 2, 1) := by decide +kernel
theorem dX12_mark_76 : decode cX12_mark 76 = .ok (.ifCond .eq 27, 3) := by decide +kernel
theorem dX12_mark_79 : decode cX12_mark 79 = .ok (.aload_n 0, 1) := by decide +kernel
theorem dX12_mark_80 : decode cX12_mark 80 = .ok (.getfield 117, 3) := by decide +kernel
theorem dX12_mark_83 : decode cX12_mark 83 = .ok (.bipush 31, 2) := by decide +kernel
theorem dX12_mark_85 : decode cX12_mark 85 = .ok (.iload_n 1, 1) := by decide +kernel
theorem dX12_mark_86 : decode cX12_mark 86 = .ok (.imul, 1) := by decide +kernel
theorem dX12_mark_87 : decode cX12_mark 87 = .ok (.aload_n 0, 1) := by decide +kernel
theorem dX12_mark_88 : decode cX12_mark 88 = .ok (.getfield 108, 3) := by decide +kernel
theorem dX12_mark_91 : decode cX12_mark 91 = .ok (.iconst 0, 1) := by decide +kernel
theorem dX12_mark_92 : decode cX12_mark 92 = .ok (.invokestatic 379, 3) := by decide +kernel
theorem dX12_mark_95 : decode cX12_mark 95 = .ok (.aload_n 0, 1) := by decide +kernel
theorem dX12_mark_96 : decode cX12_mark 96 = .ok (.iconst 0, 1) := by decide +kernel
theorem dX12_mark_97 : decode cX12_mark 97 = .ok (.putfield 336, 3) := by decide +kernel
theorem dX12_mark_100 : decode cX12_mark 100 = .ok (.goto 19, 3) := by decide +kernel
theorem dX12_mark_103 : decode cX12_mark 103 = .ok (.aload_n 0, 1) := by decide +kernel
theorem dX12_mark_104 : decode cX12_mark 104 = .ok (.getfield 108, 3) := by decide +kernel
theorem dX12_mark_107 : decode cX12_mark 107 = .ok (.iconst 0, 1) := by decide +kernel
theorem dX12_mark_108 : decode cX12_mark 108 = .ok (.aload_n 0, 1) := by decide +kernel
theorem dX12_mark_109 : decode cX12_mark 109 = .ok (.getfield 117, 3) := by decide +kernel
theorem dX12_mark_112 : decode cX12_mark 112 = .ok (.bipush 31, 2) := by decide +kernel
theorem dX12_mark_114 : decode cX12_mark 114 = .ok (.iload_n 1, 1) := by decide +kernel
theorem dX12_mark_115 : decode cX12_mark 115 = .ok (.imul, 1) := by decide +kernel
theorem dX12_mark_116 : decode cX12_mark 116 = .ok (.invokestatic 379, 3) := by decide +kernel
theorem dX12_mark_119 : decode cX12_mark 119 = .ok (.iconst 1, 1) := by decide +kernel
theorem dX12_mark_120 : decode cX12_mark 120 = .ok (.ireturn, 1) := by decide +kernel
set_option maxRecDepth 20000 in
theorem ggX12_count_X12_within : GoodIn wsX12_count wsX12_within := goodIn_r _ [11] (by decide +kernel) (by decide +kernel)
set_option maxRecDepth 20000 in
theorem gX12_count_X12_within : GoodIn wsX12_count (va_wsS RX12 252 yX12_within wsX12_within) := goodIn_app (goodIn_of _ (by decide +kernel)) ggX12_count_X12_within
set_option maxRecDepth 20000 in
theorem ggX12_count_X12_peopled : GoodIn wsX12_count wsX12_peopled := goodIn_r _ [15, 2, 3, 20, 21, 22, 23, 24, 25, 26, 27, 28, 29, 30, 31, 32, 33, 34, 35, 36, 37, 38, 39, 40, 41, 42, 43, 44, 45, 46, 47, 48, 49, 50, 51, 52, 53, 54, 55, 56, 57, 58, 59, 60, 61, 62, 63, 64, 65, 66, 67, 68, 69, 70, 71, 72, 73, 74, 75, 76] (by decide +kernel) (by decide +kernel)
set_option maxRecDepth 20000 in
theorem gX12_count_X12_peopled : GoodIn wsX12_count (wsV RX12 477 RX12 yX12_peopled wsX12_peopled) := goodIn_app (goodIn_of _ (by decide +kernel)) ggX12_count_X12_peopled
set_option maxRecDepth 20000 in
theorem ggX12_count_X12_allOf : GoodIn wsX12_count wsX12_allOf := goodIn_r _ [19, 3, 20, 21, 22, 23, 24, 25, 26, 27, 28, 29, 30, 31, 32, 33, 34, 35, 36, 37, 38, 39, 40, 41, 42, 43, 44, 45, 46, 47, 48, 49, 50, 51, 52, 53, 54, 55, 56, 57, 58, 59, 60, 61, 62, 63, 64, 65, 66, 67, 68, 69, 70, 71, 72, 73, 74, 75, 76] (by decide +kernel) (by decide +kernel)
set_option maxRecDepth 20000 in
theorem gX12_count_X12_allOf : GoodIn wsX12_count (wsV RX12 407 RX12 yX12_allOf wsX12_allOf) := goodIn_app (goodIn_of _ (by decide +kernel)) ggX12_count_X12_allOf
theorem dX12_count_0 : decode cX12_count 0 = .ok (.aload_n 0, 1) := by decide +kernel
theorem dX12_count_1 : decode cX12_count 1 = .ok (.iconst 0, 1) := by decide +kernel
theorem dX12_count_2 : decode cX12_count 2 = .ok (.putfield 129, 3) := by decide +kernel
theorem dX12_count_5 : decode cX12_count 5 = .ok (.iload_n 1, 1) := by decide +kernel
theorem dX12_count_6 : decode cX12_count 6 = .ok (.iconst 0, 1) := by decide +kernel
theorem dX12_count_7 : decode cX12_count 7 = .ok (.bipush 11, 2) := by decide +kernel
theorem dX12_count_9 : decode cX12_count 9 = .ok (.invokestatic 252, 3) := by decide +kernel
theorem dX12_count_12 : decode cX12_count 12 = .ok (.ifCond .ne 5, 3) := by decide +kernel
theorem dX12_count_15 : decode cX12_count 15 = .ok (.iconst (-1), 1) := by decide +kernel
theorem dX12_count_16 : decode cX12_count 16 = .ok (.ireturn, 1) := by decide +kernel
theorem dX12_count_17 : decode cX12_count 17 = .ok (.iload_n 1, 1) := by decide +kernel
theorem dX12_count_18 : decode cX12_count 18 = .ok (.iconst 4, 1) := by decide +kernel
theorem dX12_count_19 : decode cX12_count 19 = .ok (.if_icmp .ge 10, 3) := by decide +kernel
theorem dX12_count_22 : decode cX12_count 22 = .ok (.aload_n 0, 1) := by decide +kernel
theorem dX12_count_23 : decode cX12_count 23 = .ok (.getfield 13, 3) := by decide +kernel
theorem dX12_count_26 : decode cX12_count 26 = .ok (.iload_n 1, 1) := by decide +kernel
theorem dX12_count_27 : decode cX12_count 27 = .ok (.iaload, 1) := by decide +kernel
theorem dX12_count_28 : decode cX12_count 28 = .ok (.ireturn, 1) := by decide +kernel
theorem dX12_count_29 : decode cX12_count 29 = .ok (.iload_n 1, 1) := by decide +kernel
theorem dX12_count_30 : decode cX12_count 30 = .ok (.bipush 6, 2) := by decide +kernel
theorem dX12_count_32 : decode cX12_count 32 = .ok (.if_icmp .ge 22, 3) := by decide +kernel
theorem dX12_count_35 : decode cX12_count 35 = .ok (.iload_n 1, 1) := by decide +kernel
theorem dX12_count_36 : decode cX12_count 36 = .ok (.iconst 4, 1) := by decide +kernel
theorem dX12_count_37 : decode cX12_count 37 = .ok (.if_icmp .ne 12, 3) := by decide +kernel
theorem dX12_count_40 : decode cX12_count 40 = .ok (.aload_n 0, 1) := by decide +kernel
theorem dX12_count_41 : decode cX12_count 41 = .ok (.getfield 108, 3) := by decide +kernel
theorem dX12_count_44 : decode cX12_count 44 = .ok (.iconst 0, 1) := by decide +kernel
theorem dX12_count_45 : decode cX12_count 45 = .ok (.iaload, 1) := by decide +kernel
theorem dX12_count_46 : decode cX12_count 46 = .ok (.goto 7, 3) := by decide +kernel
theorem dX12_count_49 : decode cX12_count 49 = .ok (.aload_n 0, 1) := by decide +kernel
theorem dX12_count_50 : decode cX12_count 50 = .ok (.invokevirtual 477, 3) := by decide +kernel
theorem dX12_count_53 : decode cX12_count 53 = .ok (.ireturn, 1) := by decide +kernel
theorem dX12_count_54 : decode cX12_count 54 = .ok (.iload_n 1, 1) := by decide +kernel
theorem dX12_count_55 : decode cX12_count 55 = .ok (.bipush 8, 2) := by decide +kernel
theorem dX12_count_57 : decode cX12_count 57 = .ok (.if_icmp .ge 25, 3) := by decide +kernel
theorem dX12_count_60 : decode cX12_count 60 = .ok (.iload_n 1, 1) := by decide +kernel
theorem dX12_count_61 : decode cX12_count 61 = .ok (.bipush 6, 2) := by decide +kernel
theorem dX12_count_63 : decode cX12_count 63 = .ok (.if_icmp .ne 12, 3) := by decide +kernel
theorem dX12_count_66 : decode cX12_count 66 = .ok (.aload_n 0, 1) := by decide +kernel
theorem dX12_count_67 : decode cX12_count 67 = .ok (.bipush 13, 2) := by decide +kernel
theorem dX12_count_69 : decode cX12_count 69 = .ok (.invokevirtual 407, 3) := by decide +kernel
theorem dX12_count_72 : decode cX12_count 72 = .ok (.goto 9, 3) := by decide +kernel
theorem dX12_count_75 : decode cX12_count 75 = .ok (.aload_n 0, 1) := by decide +kernel
theorem dX12_count_76 : decode cX12_count 76 = .ok (.bipush 19, 2) := by decide +kernel
theorem dX12_count_78 : decode cX12_count 78 = .ok (.invokevirtual 407, 3) := by decide +kernel
theorem dX12_count_81 : decode cX12_count 81 = .ok (.ireturn, 1) := by decide +kernel
theorem dX12_count_82 : decode cX12_count 82 = .ok (.iload_n 1, 1) := by decide +kernel
theorem dX12_count_83 : decode cX12_count 83 = .ok (.bipush 10, 2) := by decide +kernel
theorem dX12_count_85 : decode cX12_count 85 = .ok (.if_icmp .ge 25, 3) := by decide +kernel
theorem dX12_count_88 : decode cX12_count 88 = .ok (.iload_n 1, 1) := by decide +kernel
theorem dX12_count_89 : decode cX12_count 89 = .ok (.bipush 8, 2) := by decide +kernel
theorem dX12_count_91 : decode cX12_count 91 = .ok (.if_icmp .ne 12, 3) := by decide +kernel
theorem dX12_count_94 : decode cX12_count 94 = .ok (.aload_n 0, 1) := by decide +kernel
theorem dX12_count_95 : decode cX12_count 95 = .ok (.getfield 87, 3) := by decide +kernel
theorem dX12_count_98 : decode cX12_count 98 = .ok (.iconst 0, 1) := by decide +kernel
theorem dX12_count_99 : decode cX12_count 99 = .ok (.iaload, 1) := by decide +kernel
theorem dX12_count_100 : decode cX12_count 100 = .ok (.goto 9, 3) := by decide +kernel
theorem dX12_count_103 : decode cX12_count 103 = .ok (.aload_n 0, 1) := by decide +kernel
theorem dX12_count_104 : decode cX12_count 104 = .ok (.getfield 99, 3) := by decide +kernel
theorem dX12_count_107 : decode cX12_count 107 = .ok (.iconst 0, 1) := by decide +kernel
theorem dX12_count_108 : decode cX12_count 108 = .ok (.iaload, 1) := by decide +kernel
theorem dX12_count_109 : decode cX12_count 109 = .ok (.ireturn, 1) := by decide +kernel
theorem dX12_count_110 : decode cX12_count 110 = .ok (.iload_n 1, 1) := by decide +kernel
theorem dX12_count_111 : decode cX12_count 111 = .ok (.bipush 10, 2) := by decide +kernel
theorem dX12_count_113 : decode cX12_count 113 = .ok (.if_icmp .ne 10, 3) := by decide +kernel
theorem dX12_count_116 : decode cX12_count 116 = .ok (.aload_n 0, 1) := by decide +kernel
theorem dX12_count_117 : decode cX12_count 117 = .ok (.getfield 336, 3) := by decide +kernel
theorem dX12_count_120 : decode cX12_count 120 = .ok (.goto 7, 3) := by decide +kernel
theorem dX12_count_123 : decode cX12_count 123 = .ok (.aload_n 0, 1) := by decide +kernel
theorem dX12_count_124 : decode cX12_count 124 = .ok (.getfield 135, 3) := by decide +kernel
theorem dX12_count_127 : decode cX12_count 127 = .ok (.ireturn, 1) := by decide +kernel
