theorem dX12_worked_249 : decode cX12_worked 249 = .ok (.if_icmp .ne 19, 3) := by decide +kernel
theorem dX12_worked_252 : decode cX12_worked 252 = .ok (.aload_n 0, 1) := by decide +kernel
theorem dX12_worked_253 : decode cX12_worked 253 = .ok (.iload_n 2, 1) := by decide +kernel
theorem dX12_worked_254 : decode cX12_worked 254 = .ok (.invokevirtual 213, 3) := by decide +kernel
theorem dX12_worked_257 : decode cX12_worked 257 = .ok (.aload_n 0, 1) := by decide +kernel
theorem dX12_worked_258 : decode cX12_worked 258 = .ok (.getfield 57, 3) := by decide +kernel
theorem dX12_worked_261 : decode cX12_worked 261 = .ok (.iload_n 2, 1) := by decide +kernel
theorem dX12_worked_262 : decode cX12_worked 262 = .ok (.iaload, 1) := by decide +kernel
theorem dX12_worked_263 : decode cX12_worked 263 = .ok (.istore 5, 2) := by decide +kernel
theorem dX12_worked_265 : decode cX12_worked 265 = .ok (.iinc 2 (-1), 3) := by decide +kernel
theorem dX12_worked_268 : decode cX12_worked 268 = .ok (.iload_n 2, 1) := by decide +kernel
theorem dX12_worked_269 : decode cX12_worked 269 = .ok (.ifCond .le 31, 3) := by decide +kernel
theorem dX12_worked_272 : decode cX12_worked 272 = .ok (.aload_n 0, 1) := by decide +kernel
theorem dX12_worked_273 : decode cX12_worked 273 = .ok (.getfield 81, 3) := by decide +kernel
theorem dX12_worked_276 : decode cX12_worked 276 = .ok (.iload_n 2, 1) := by decide +kernel
theorem dX12_worked_277 : decode cX12_worked 277 = .ok (.iaload, 1) := by decide +kernel
theorem dX12_worked_278 : decode cX12_worked 278 = .ok (.iconst 1, 1) := by decide +kernel
theorem dX12_worked_279 : decode cX12_worked 279 = .ok (.if_icmp .ne 21, 3) := by decide +kernel
theorem dX12_worked_282 : decode cX12_worked 282 = .ok (.iload 5, 2) := by decide +kernel
theorem dX12_worked_284 : decode cX12_worked 284 = .ok (.ifCond .ne 7, 3) := by decide +kernel
theorem dX12_worked_287 : decode cX12_worked 287 = .ok (.iconst 1, 1) := by decide +kernel
theorem dX12_worked_288 : decode cX12_worked 288 = .ok (.goto 4, 3) := by decide +kernel
theorem dX12_worked_291 : decode cX12_worked 291 = .ok (.iconst 0, 1) := by decide +kernel
theorem dX12_worked_292 : decode cX12_worked 292 = .ok (.istore 5, 2) := by decide +kernel
theorem dX12_worked_294 : decode cX12_worked 294 = .ok (.iinc 2 (-1), 3) := by decide +kernel
theorem dX12_worked_297 : decode cX12_worked 297 = .ok (.goto (-29), 3) := by decide +kernel
theorem dX12_worked_300 : decode cX12_worked 300 = .ok (.aload_n 0, 1) := by decide +kernel
theorem dX12_worked_301 : decode cX12_worked 301 = .ok (.getfield 75, 3) := by decide +kernel
theorem dX12_worked_304 : decode cX12_worked 304 = .ok (.iload_n 2, 1) := by decide +kernel
theorem dX12_worked_305 : decode cX12_worked 305 = .ok (.aload_n 0, 1) := by decide +kernel
theorem dX12_worked_306 : decode cX12_worked 306 = .ok (.getfield 78, 3) := by decide +kernel
theorem dX12_worked_309 : decode cX12_worked 309 = .ok (.iload_n 2, 1) := by decide +kernel
theorem dX12_worked_310 : decode cX12_worked 310 = .ok (.iaload, 1) := by decide +kernel
theorem dX12_worked_311 : decode cX12_worked 311 = .ok (.ifCond .ne 8, 3) := by decide +kernel
theorem dX12_worked_314 : decode cX12_worked 314 = .ok (.iload 5, 2) := by decide +kernel
theorem dX12_worked_316 : decode cX12_worked 316 = .ok (.goto 12, 3) := by decide +kernel
theorem dX12_worked_319 : decode cX12_worked 319 = .ok (.aload_n 0, 1) := by decide +kernel
theorem dX12_worked_320 : decode cX12_worked 320 = .ok (.getfield 75, 3) := by decide +kernel
theorem dX12_worked_323 : decode cX12_worked 323 = .ok (.iload_n 2, 1) := by decide +kernel
theorem dX12_worked_324 : decode cX12_worked 324 = .ok (.iaload, 1) := by decide +kernel
theorem dX12_worked_325 : decode cX12_worked 325 = .ok (.iload 5, 2) := by decide +kernel
theorem dX12_worked_327 : decode cX12_worked 327 = .ok (.imul, 1) := by decide +kernel
theorem dX12_worked_328 : decode cX12_worked 328 = .ok (.iastore, 1) := by decide +kernel
theorem dX12_worked_329 : decode cX12_worked 329 = .ok (.iinc 3 1, 3) := by decide +kernel
theorem dX12_worked_332 : decode cX12_worked 332 = .ok (.goto (-318), 3) := by decide +kernel
theorem dX12_worked_335 : decode cX12_worked 335 = .ok (.aload_n 0, 1) := by decide +kernel
theorem dX12_worked_336 : decode cX12_worked 336 = .ok (.iconst 0, 1) := by decide +kernel
theorem dX12_worked_337 : decode cX12_worked 337 = .ok (.invokevirtual 213, 3) := by decide +kernel
theorem dX12_worked_340 : decode cX12_worked 340 = .ok (.aload_n 0, 1) := by decide +kernel
theorem dX12_worked_341 : decode cX12_worked 341 = .ok (.getfield 57, 3) := by decide +kernel
theorem dX12_worked_344 : decode cX12_worked 344 = .ok (.iconst 0, 1) := by decide +kernel
theorem dX12_worked_345 : decode cX12_worked 345 = .ok (.iaload, 1) := by decide +kernel
theorem dX12_worked_346 : decode cX12_worked 346 = .ok (.ireturn, 1) := by decide +kernel
theorem dX12_isKept_0 : decode cX12_isKept 0 = .ok (.aload_n 0, 1) := by decide +kernel
theorem dX12_isKept_1 : decode cX12_isKept 1 = .ok (.getfield 154, 3) := by decide +kernel
theorem dX12_isKept_4 : decode cX12_isKept 4 = .ok (.iconst 1, 1) := by decide +kernel
theorem dX12_isKept_5 : decode cX12_isKept 5 = .ok (.if_icmp .eq 5, 3) := by decide +kernel
theorem dX12_isKept_8 : decode cX12_isKept 8 = .ok (.iconst 1, 1) := by decide +kernel
theorem dX12_isKept_9 : decode cX12_isKept 9 = .ok (.ireturn, 1) := by decide +kernel
theorem dX12_isKept_10 : decode cX12_isKept 10 = .ok (.aload_n 0, 1) := by decide +kernel
theorem dX12_isKept_11 : decode cX12_isKept 11 = .ok (.getfield 147, 3) := by decide +kernel
theorem dX12_isKept_14 : decode cX12_isKept 14 = .ok (.ldc2_w 216, 3) := by decide +kernel
theorem dX12_isKept_17 : decode cX12_isKept 17 = .ok (.lcmp, 1) := by decide +kernel
theorem dX12_isKept_18 : decode cX12_isKept 18 = .ok (.ifCond .eq 223, 3) := by decide +kernel
theorem dX12_isKept_21 : decode cX12_isKept 21 = .ok (.aload_n 0, 1) := by decide +kernel
theorem dX12_isKept_22 : decode cX12_isKept 22 = .ok (.getfield 147, 3) := by decide +kernel
theorem dX12_isKept_25 : decode cX12_isKept 25 = .ok (.ldc2_w 218, 3) := by decide +kernel
theorem dX12_isKept_28 : decode cX12_isKept 28 = .ok (.lcmp, 1) := by decide +kernel
theorem dX12_isKept_29 : decode cX12_isKept 29 = .ok (.ifCond .eq 212, 3) := by decide +kernel
theorem dX12_isKept_32 : decode cX12_isKept 32 = .ok (.aload_n 0, 1) := by decide +kernel
theorem dX12_isKept_33 : decode cX12_isKept 33 = .ok (.getfield 147, 3) := by decide +kernel
theorem dX12_isKept_36 : decode cX12_isKept 36 = .ok (.ldc2_w 220, 3) := by decide +kernel
theorem dX12_isKept_39 : decode cX12_isKept 39 = .ok (.lcmp, 1) := by decide +kernel
theorem dX12_isKept_40 : decode cX12_isKept 40 = .ok (.ifCond .eq 201, 3) := by decide +kernel
theorem dX12_isKept_43 : decode cX12_isKept 43 = .ok (.aload_n 0, 1) := by decide +kernel
theorem dX12_isKept_44 : decode cX12_isKept 44 = .ok (.getfield 147, 3) := by decide +kernel
theorem dX12_isKept_47 : decode cX12_isKept 47 = .ok (.ldc2_w 222, 3) := by decide +kernel
theorem dX12_isKept_50 : decode cX12_isKept 50 = .ok (.lcmp, 1) := by decide +kernel
theorem dX12_isKept_51 : decode cX12_isKept 51 = .ok (.ifCond .eq 190, 3) := by decide +kernel
theorem dX12_isKept_54 : decode cX12_isKept 54 = .ok (.aload_n 0, 1) := by decide +kernel
theorem dX12_isKept_55 : decode cX12_isKept 55 = .ok (.getfield 147, 3) := by decide +kernel
theorem dX12_isKept_58 : decode cX12_isKept 58 = .ok (.ldc2_w 224, 3) := by decide +kernel
theorem dX12_isKept_61 : decode cX12_isKept 61 = .ok (.lcmp, 1) := by decide +kernel
theorem dX12_isKept_62 : decode cX12_isKept 62 = .ok (.ifCond .eq 179, 3) := by decide +kernel
theorem dX12_isKept_65 : decode cX12_isKept 65 = .ok (.aload_n 0, 1) := by decide +kernel
theorem dX12_isKept_66 : decode cX12_isKept 66 = .ok (.getfield 147, 3) := by decide +kernel
theorem dX12_isKept_69 : decode cX12_isKept 69 = .ok (.ldc2_w 226, 3) := by decide +kernel
theorem dX12_isKept_72 : decode cX12_isKept 72 = .ok (.lcmp, 1) := by decide +kernel
theorem dX12_isKept_73 : decode cX12_isKept 73 = .ok (.ifCond .eq 168, 3) := by decide +kernel
theorem dX12_isKept_76 : decode cX12_isKept 76 = .ok (.aload_n 0, 1) := by decide +kernel
theorem dX12_isKept_77 : decode cX12_isKept 77 = .ok (.getfield 147, 3) := by decide +kernel
theorem dX12_isKept_80 : decode cX12_isKept 80 = .ok (.ldc2_w 228, 3) := by decide +kernel
theorem dX12_isKept_83 : decode cX12_isKept 83 = .ok (.lcmp, 1) := by decide +kernel
theorem dX12_isKept_84 : decode cX12_isKept 84 = .ok (.ifCond .eq 157, 3) := by decide +kernel
theorem dX12_isKept_87 : decode cX12_isKept 87 = .ok (.aload_n 0, 1) := by decide +kernel
theorem dX12_isKept_88 : decode cX12_isKept 88 = .ok (.getfield 147, 3) := by decide +kernel
theorem dX12_isKept_91 : decode cX12_isKept 91 = .ok (.ldc2_w 230, 3) := by decide +kernel
theorem dX12_isKept_94 : decode cX12_isKept 94 = .ok (.lcmp, 1) := by decide +kernel
theorem dX12_isKept_95 : decode cX12_isKept 95 = .ok (.ifCond .eq 146, 3) := by decide +kernel
theorem dX12_isKept_98 : decode cX12_isKept 98 = .ok (.aload_n 0, 1) := by decide +kernel
theorem dX12_isKept_99 : decode cX12_isKept 99 = .ok (.getfield 147, 3) := by decide +kernel
theorem dX12_isKept_102 : decode cX12_isKept 102 = .ok (.ldc2_w 232, 3) := by decide +kernel
theorem dX12_isKept_105 : decode cX12_isKept 105 = .ok (.lcmp, 1) := by decide +kernel
theorem dX12_isKept_106 : decode cX12_isKept 106 = .ok (.ifCond .eq 135, 3) := by decide +kernel
theorem dX12_isKept_109 : decode cX12_isKept 109 = .ok (.aload_n 0, 1) := by decide +kernel
theorem dX12_isKept_110 : decode cX12_isKept 110 = .ok (.getfield 147, 3) := by decide +kernel
theorem dX12_isKept_113 : decode cX12_isKept 113 = .ok (.ldc2_w 234, 3) := by decide +kernel
theorem dX12_isKept_116 : decode cX12_isKept 116 = .ok (.lcmp, 1) := by decide +kernel
theorem dX12_isKept_117 : decode cX12_isKept 117 = .ok (.ifCond .eq 124, 3) := by decide +kernel
theorem dX12_isKept_120 : decode cX12_isKept 120 = .ok (.aload_n 0, 1) := by decide +kernel
theorem dX12_isKept_121 : decode cX12_isKept 121 = .ok (.getfield 147, 3) := by decide +kernel
theorem dX12_isKept_124 : decode cX12_isKept 124 = .ok (.ldc2_w 236, 3) := by decide +kernel
theorem dX12_isKept_127 : decode cX12_isKept 127 = .ok (.lcmp, 1) := by decide +kernel
theorem dX12_isKept_128 : decode cX12_isKept 128 = .ok (.ifCond .eq 113, 3) := by decide +kernel
theorem dX12_isKept_131 : decode cX12_isKept 131 = .ok (.aload_n 0, 1) := by decide +kernel
theorem dX12_isKept_132 : decode cX12_isKept 132 = .ok (.getfield 147, 3) := by decide +kernel
theorem dX12_isKept_135 : decode cX12_isKept 135 = .ok (.ldc2_w 238, 3) := by decide +kernel
theorem dX12_isKept_138 : decode cX12_isKept 138 = .ok (.lcmp, 1) := by decide +kernel
theorem dX12_isKept_139 : decode cX12_isKept 139 = .ok (.ifCond .eq 102, 3) := by decide +kernel
theorem dX12_isKept_142 : decode cX12_isKept 142 = .ok (.aload_n 0, 1) := by decide +kernel
theorem dX12_isKept_143 : decode cX12_isKept 143 = .ok (.getfield 147, 3) := by decide +kernel
theorem dX12_isKept_146 : decode cX12_isKept 146 = .ok (.ldc2_w 240, 3) := by decide +kernel
theorem dX12_isKept_149 : decode cX12_isKept 149 = .ok (.lcmp, 1) := by decide +kernel
theorem dX12_isKept_150 : decode cX12_isKept 150 = .ok (.ifCond .eq 91, 3) := by decide +kernel
theorem dX12_isKept_153 : decode cX12_isKept 153 = .ok (.aload_n 0, 1) := by decide +kernel
theorem dX12_isKept_154 : decode cX12_isKept 154 = .ok (.getfield 147, 3) := by decide +kernel
theorem dX12_isKept_157 : decode cX12_isKept 157 = .ok (.ldc2_w 242, 3) := by decide +kernel
theorem dX12_isKept_160 : decode cX12_isKept 160 = .ok (.lcmp, 1) := by decide +kernel
theorem dX12_isKept_161 : decode cX12_isKept 161 = .ok (.ifCond .eq 80, 3) := by decide +kernel
theorem dX12_isKept_164 : decode cX12_isKept 164 = .ok (.aload_n 0, 1) := by decide +kernel
theorem dX12_isKept_165 : decode cX12_isKept 165 = .ok (.getfield 147, 3) := by decide +kernel
theorem dX12_isKept_168 : decode cX12_isKept 168 = .ok (.ldc2_w 244, 3) := by decide +kernel
theorem dX12_isKept_171 : decode cX12_isKept 171 = .ok (.lcmp, 1) := by decide +kernel
theorem dX12_isKept_172 : decode cX12_isKept 172 = .ok (.ifCond .eq 69, 3) := by decide +kernel
theorem dX12_isKept_175 : decode cX12_isKept 175 = .ok (.aload_n 0, 1) := by decide +kernel
theorem dX12_isKept_176 : decode cX12_isKept 176 = .ok (.getfield 147, 3) := by decide +kernel
theorem dX12_isKept_179 : decode cX12_isKept 179 = .ok (.ldc2_w 246, 3) := by decide +kernel
theorem dX12_isKept_182 : decode cX12_isKept 182 = .ok (.lcmp, 1) := by decide +kernel
theorem dX12_isKept_183 : decode cX12_isKept 183 = .ok (.ifCond .eq 58, 3) := by decide +kernel
theorem dX12_isKept_186 : decode cX12_isKept 186 = .ok (.aload_n 0, 1) := by decide +kernel
theorem dX12_isKept_187 : decode cX12_isKept 187 = .ok (.getfield 147, 3) := by decide +kernel
theorem dX12_isKept_190 : decode cX12_isKept 190 = .ok (.ldc2_w 248, 3) := by decide +kernel
theorem dX12_isKept_193 : decode cX12_isKept 193 = .ok (.lcmp, 1) := by decide +kernel
theorem dX12_isKept_194 : decode cX12_isKept 194 = .ok (.ifCond .eq 47, 3) := by decide +kernel
theorem dX12_isKept_197 : decode cX12_isKept 197 = .ok (.aload_n 0, 1) := by decide +kernel
theorem dX12_isKept_198 : decode cX12_isKept 198 = .ok (.getfield 147, 3) := by decide +kernel
theorem dX12_isKept_201 : decode cX12_isKept 201 = .ok (.ldc2_w 250, 3) := by decide +kernel
theorem dX12_isKept_204 : decode cX12_isKept 204 = .ok (.lcmp, 1) := by decide +kernel
theorem dX12_isKept_205 : decode cX12_isKept 205 = .ok (.ifCond .eq 36, 3) := by decide +kernel
theorem dX12_isKept_208 : decode cX12_isKept 208 = .ok (.aload_n 0, 1) := by decide +kernel
theorem dX12_isKept_209 : decode cX12_isKept 209 = .ok (.getfield 147, 3) := by decide +kernel
theorem dX12_isKept_212 : decode cX12_isKept 212 = .ok (.ldc2_w 183, 3) := by decide +kernel
theorem dX12_isKept_215 : decode cX12_isKept 215 = .ok (.lcmp, 1) := by decide +kernel
theorem dX12_isKept_216 : decode cX12_isKept 216 = .ok (.ifCond .eq 25, 3) := by decide +kernel
theorem dX12_isKept_219 : decode cX12_isKept 219 = .ok (.aload_n 0, 1) := by decide +kernel
theorem dX12_isKept_220 : decode cX12_isKept 220 = .ok (.getfield 147, 3) := by decide +kernel
theorem dX12_isKept_223 : decode cX12_isKept 223 = .ok (.ldc2_w 203, 3) := by decide +kernel
theorem dX12_isKept_226 : decode cX12_isKept 226 = .ok (.lcmp, 1) := by decide +kernel
theorem dX12_isKept_227 : decode cX12_isKept 227 = .ok (.ifCond .eq 14, 3) := by decide +kernel
theorem dX12_isKept_230 : decode cX12_isKept 230 = .ok (.aload_n 0, 1) := by decide +kernel
theorem dX12_isKept_231 : decode cX12_isKept 231 = .ok (.getfield 147, 3) := by decide +kernel
theorem dX12_isKept_234 : decode cX12_isKept 234 = .ok (.ldc2_w 205, 3) := by decide +kernel
theorem dX12_isKept_237 : decode cX12_isKept 237 = .ok (.lcmp, 1) := by decide +kernel
theorem dX12_isKept_238 : decode cX12_isKept 238 = .ok (.ifCond .ne 7, 3) := by decide +kernel
theorem dX12_isKept_241 : decode cX12_isKept 241 = .ok (.iconst 1, 1) := by decide +kernel
theorem dX12_isKept_242 : decode cX12_isKept 242 = .ok (.goto 4, 3) := by decide +kernel
theorem dX12_isKept_245 : decode cX12_isKept 245 = .ok (.iconst 0, 1) := by decide +kernel
theorem dX12_isKept_246 : decode cX12_isKept 246 = .ok (.ireturn, 1) := by decide +kernel
theorem dX12_townNamed_0 : decode cX12_townNamed 0 = .ok (.bipush 6, 2) := by decide +kernel
theorem dX12_townNamed_2 : decode cX12_townNamed 2 = .ok (.iload_n 1, 1) := by decide +kernel
theorem dX12_townNamed_3 : decode cX12_townNamed 3 = .ok (.imul, 1) := by decide +kernel
theorem dX12_townNamed_4 : decode cX12_townNamed 4 = .ok (.istore_n 2, 1) := by decide +kernel
theorem dX12_townNamed_5 : decode cX12_townNamed 5 = .ok (.iload_n 2, 1) := by decide +kernel
theorem dX12_townNamed_6 : decode cX12_townNamed 6 = .ok (.bipush 6, 2) := by decide +kernel
theorem dX12_townNamed_8 : decode cX12_townNamed 8 = .ok (.iload_n 1, 1) := by decide +kernel
theorem dX12_townNamed_9 : decode cX12_townNamed 9 = .ok (.imul, 1) := by decide +kernel
theorem dX12_townNamed_10 : decode cX12_townNamed 10 = .ok (.aload_n 0, 1) := by decide +kernel
theorem dX12_townNamed_11 : decode cX12_townNamed 11 = .ok (.getfield 13, 3) := by decide +kernel
theorem dX12_townNamed_14 : decode cX12_townNamed 14 = .ok (.iconst 4, 1) := by decide +kernel
theorem dX12_townNamed_15 : decode cX12_townNamed 15 = .ok (.iload_n 1, 1) := by decide +kernel
theorem dX12_townNamed_16 : decode cX12_townNamed 16 = .ok (.imul, 1) := by decide +kernel
theorem dX12_townNamed_17 : decode cX12_townNamed 17 = .ok (.iconst 0, 1) := by decide +kernel
theorem dX12_townNamed_18 : decode cX12_townNamed 18 = .ok (.iadd, 1) := by decide +kernel
theorem dX12_townNamed_19 : decode cX12_townNamed 19 = .ok (.iaload, 1) := by decide +kernel
theorem dX12_townNamed_20 : decode cX12_townNamed 20 = .ok (.iadd, 1) := by decide +kernel
theorem dX12_townNamed_21 : decode cX12_townNamed 21 = .ok (.if_icmp .ge 30, 3) := by decide +kernel
theorem dX12_townNamed_24 : decode cX12_townNamed 24 = .ok (.aload_n 0, 1) := by decide +kernel
theorem dX12_townNamed_25 : decode cX12_townNamed 25 = .ok (.getfield 16, 3) := by decide +kernel
theorem dX12_townNamed_28 : decode cX12_townNamed 28 = .ok (.iload_n 2, 1) := by decide +kernel
theorem dX12_townNamed_29 : decode cX12_townNamed 29 = .ok (.laload, 1) := by decide +kernel
theorem dX12_townNamed_30 : decode cX12_townNamed 30 = .ok (.aload_n 0, 1) := by decide +kernel
theorem dX12_townNamed_31 : decode cX12_townNamed 31 = .ok (.getfield 147, 3) := by decide +kernel
theorem dX12_townNamed_34 : decode cX12_townNamed 34 = .ok (.lcmp, 1) := by decide +kernel
theorem dX12_townNamed_35 : decode cX12_townNamed 35 = .ok (.ifCond .ne 10, 3) := by decide +kernel
theorem dX12_townNamed_38 : decode cX12_townNamed 38 = .ok (.iload_n 2, 1) := by decide +kernel
theorem dX12_townNamed_39 : decode cX12_townNamed 39 = .ok (.bipush 6, 2) := by decide +kernel
theorem dX12_townNamed_41 : decode cX12_townNamed 41 = .ok (.iload_n 1, 1) := by decide +kernel
theorem dX12_townNamed_42 : decode cX12_townNamed 42 = .ok (.imul, 1) := by decide +kernel
theorem dX12_townNamed_43 : decode cX12_townNamed 43 = .ok (.isub, 1) := by decide +kernel
theorem dX12_townNamed_44 : decode cX12_townNamed 44 = .ok (.ireturn, 1) := by decide +kernel
theorem dX12_townNamed_45 : decode cX12_townNamed 45 = .ok (.iinc 2 1, 3) := by decide +kernel
theorem dX12_townNamed_48 : decode cX12_townNamed 48 = .ok (.goto (-43), 3) := by decide +kernel
theorem dX12_townNamed_51 : decode cX12_townNamed 51 = .ok (.iconst (-1), 1) := by decide +kernel
theorem dX12_townNamed_52 : decode cX12_townNamed 52 = .ok (.ireturn, 1) := by decide +kernel
theorem dX12_personNamed_0 : decode cX12_personNamed 0 = .ok (.bipush 6, 2) := by decide +kernel
theorem dX12_personNamed_2 : decode cX12_personNamed 2 = .ok (.iload_n 1, 1) := by decide +kernel
theorem dX12_personNamed_3 : decode cX12_personNamed 3 = .ok (.imul, 1) := by decide +kernel
theorem dX12_personNamed_4 : decode cX12_personNamed 4 = .ok (.istore_n 2, 1) := by decide +kernel
theorem dX12_personNamed_5 : decode cX12_personNamed 5 = .ok (.iload_n 2, 1) := by decide +kernel
theorem dX12_personNamed_6 : decode cX12_personNamed 6 = .ok (.bipush 6, 2) := by decide +kernel
theorem dX12_personNamed_8 : decode cX12_personNamed 8 = .ok (.iload_n 1, 1) := by decide +kernel
theorem dX12_personNamed_9 : decode cX12_personNamed 9 = .ok (.imul, 1) := by decide +kernel
theorem dX12_personNamed_10 : decode cX12_personNamed 10 = .ok (.aload_n 0, 1) := by decide +kernel
theorem dX12_personNamed_11 : decode cX12_personNamed 11 = .ok (.getfield 13, 3) := by decide +kernel
theorem dX12_personNamed_14 : decode cX12_personNamed 14 = .ok (.iconst 4, 1) := by decide +kernel
theorem dX12_personNamed_15 : decode cX12_personNamed 15 = .ok (.iload_n 1, 1) := by decide +kernel
theorem dX12_personNamed_16 : decode cX12_personNamed 16 = .ok (.imul, 1) := by decide +kernel
theorem dX12_personNamed_17 : decode cX12_personNamed 17 = .ok (.iconst 1, 1) := by decide +kernel
theorem dX12_personNamed_18 : decode cX12_personNamed 18 = .ok (.iadd, 1) := by decide +kernel
theorem dX12_personNamed_19 : decode cX12_personNamed 19 = .ok (.iaload, 1) := by decide +kernel
theorem dX12_personNamed_20 : decode cX12_personNamed 20 = .ok (.iadd, 1) := by decide +kernel
theorem dX12_personNamed_21 : decode cX12_personNamed 21 = .ok (.if_icmp .ge 30, 3) := by decide +kernel
theorem dX12_personNamed_24 : decode cX12_personNamed 24 = .ok (.aload_n 0, 1) := by decide +kernel
theorem dX12_personNamed_25 : decode cX12_personNamed 25 = .ok (.getfield 20, 3) := by decide +kernel
theorem dX12_personNamed_28 : decode cX12_personNamed 28 = .ok (.iload_n 2, 1) := by decide +kernel
theorem dX12_personNamed_29 : decode cX12_personNamed 29 = .ok (.laload, 1) := by decide +kernel
theorem dX12_personNamed_30 : decode cX12_personNamed 30 = .ok (.aload_n 0, 1) := by decide +kernel
theorem dX12_personNamed_31 : decode cX12_personNamed 31 = .ok (.getfield 147, 3) := by decide +kernel
theorem dX12_personNamed_34 : decode cX12_personNamed 34 = .ok (.lcmp, 1) := by decide +kernel
theorem dX12_personNamed_35 : decode cX12_personNamed 35 = .ok (.ifCond .ne 10, 3) := by decide +kernel
theorem dX12_personNamed_38 : decode cX12_personNamed 38 = .ok (.iload_n 2, 1) := by decide +kernel
theorem dX12_personNamed_39 : decode cX12_personNamed 39 = .ok (.bipush 6, 2) := by decide +kernel
theorem dX12_personNamed_41 : decode cX12_personNamed 41 = .ok (.iload_n 1, 1) := by decide +kernel
theorem dX12_personNamed_42 : decode cX12_personNamed 42 = .ok (.imul, 1) := by decide +kernel
theorem dX12_personNamed_43 : decode cX12_personNamed 43 = .ok (.isub, 1) := by decide +kernel
theorem dX12_personNamed_44 : decode cX12_personNamed 44 = .ok (.ireturn, 1) := by decide +kernel
theorem dX12_personNamed_45 : decode cX12_personNamed 45 = .ok (.iinc 2 1, 3) := by decide +kernel
theorem dX12_personNamed_48 : decode cX12_personNamed 48 = .ok (.goto (-43), 3) := by decide +kernel
theorem dX12_personNamed_51 : decode cX12_personNamed 51 = .ok (.iconst (-1), 1) := by decide +kernel
theorem dX12_personNamed_52 : decode cX12_personNamed 52 = .ok (.ireturn, 1) := by decide +kernel
theorem dX12_needsNumber_0 : decode cX12_needsNumber 0 = .ok (.aload_n 0, 1) := by decide +kernel
theorem dX12_needsNumber_1 : decode cX12_needsNumber 1 = .ok (.getfield 154, 3) := by decide +kernel
theorem dX12_needsNumber_4 : decode cX12_needsNumber 4 = .ok (.iconst 2, 1) := by decide +kernel
theorem dX12_needsNumber_5 : decode cX12_needsNumber 5 = .ok (.if_icmp .eq 9, 3) := by decide +kernel
theorem dX12_needsNumber_8 : decode cX12_needsNumber 8 = .ok (.aload_n 0, 1) := by decide +kernel
theorem dX12_needsNumber_9 : decode cX12_needsNumber 9 = .ok (.iconst 1, 1) := by decide +kernel
theorem dX12_needsNumber_10 : decode cX12_needsNumber 10 = .ok (.invokevirtual 193, 3) := by decide +kernel
theorem dX12_needsNumber_13 : decode cX12_needsNumber 13 = .ok (.ireturn, 1) := by decide +kernel
theorem dX12_needsNumber_14 : decode cX12_needsNumber 14 = .ok (.aload_n 0, 1) := by decide +kernel
theorem dX12_needsNumber_15 : decode cX12_needsNumber 15 = .ok (.getfield 151, 3) := by decide +kernel
theorem dX12_needsNumber_18 : decode cX12_needsNumber 18 = .ok (.iload_n 1, 1) := by decide +kernel
theorem dX12_needsNumber_19 : decode cX12_needsNumber 19 = .ok (.iload_n 2, 1) := by decide +kernel
theorem dX12_needsNumber_20 : decode cX12_needsNumber 20 = .ok (.invokestatic 252, 3) := by decide +kernel
theorem dX12_needsNumber_23 : decode cX12_needsNumber 23 = .ok (.ifCond .ne 9, 3) := by decide +kernel
theorem dX12_needsNumber_26 : decode cX12_needsNumber 26 = .ok (.aload_n 0, 1) := by decide +kernel
theorem dX12_needsNumber_27 : decode cX12_needsNumber 27 = .ok (.iconst 4, 1) := by decide +kernel
theorem dX12_needsNumber_28 : decode cX12_needsNumber 28 = .ok (.invokevirtual 193, 3) := by decide +kernel
theorem dX12_needsNumber_31 : decode cX12_needsNumber 31 = .ok (.ireturn, 1) := by decide +kernel
theorem dX12_needsNumber_32 : decode cX12_needsNumber 32 = .ok (.aload_n 0, 1) := by decide +kernel
theorem dX12_needsNumber_33 : decode cX12_needsNumber 33 = .ok (.aload_n 0, 1) := by decide +kernel
theorem dX12_needsNumber_34 : decode cX12_needsNumber 34 = .ok (.getfield 151, 3) := by decide +kernel
theorem dX12_needsNumber_37 : decode cX12_needsNumber 37 = .ok (.putfield 256, 3) := by decide +kernel
theorem dX12_needsNumber_40 : decode cX12_needsNumber 40 = .ok (.aload_n 0, 1) := by decide +kernel
theorem dX12_needsNumber_41 : decode cX12_needsNumber 41 = .ok (.invokevirtual 200, 3) := by decide +kernel
theorem dX12_needsNumber_44 : decode cX12_needsNumber 44 = .ok (.iconst 1, 1) := by decide +kernel
theorem dX12_needsNumber_45 : decode cX12_needsNumber 45 = .ok (.ireturn, 1) := by decide +kernel
theorem dX12_needsWord_0 : decode cX12_needsWord 0 = .ok (.aload_n 0, 1) := by decide +kernel
theorem dX12_needsWord_1 : decode cX12_needsWord 1 = .ok (.lload_n 1, 1) := by decide +kernel
theorem dX12_needsWord_2 : decode cX12_needsWord 2 = .ok (.invokevirtual 185, 3) := by decide +kernel
theorem dX12_needsWord_5 : decode cX12_needsWord 5 = .ok (.ifCond .ne 9, 3) := by decide +kernel
theorem dX12_needsWord_8 : decode cX12_needsWord 8 = .ok (.aload_n 0, 1) := by decide +kernel
theorem dX12_needsWord_9 : decode cX12_needsWord 9 = .ok (.iconst 1, 1) := by decide +kernel
theorem dX12_needsWord_10 : decode cX12_needsWord 10 = .ok (.invokevirtual 193, 3) := by decide +kernel
theorem dX12_needsWord_13 : decode cX12_needsWord 13 = .ok (.ireturn, 1) := by decide +kernel
theorem dX12_needsWord_14 : decode cX12_needsWord 14 = .ok (.aload_n 0, 1) := by decide +kernel
theorem dX12_needsWord_15 : decode cX12_needsWord 15 = .ok (.invokevirtual 200, 3) := by decide +kernel
theorem dX12_needsWord_18 : decode cX12_needsWord 18 = .ok (.iconst 1, 1) := by decide +kernel
theorem dX12_needsWord_19 : decode cX12_needsWord 19 = .ok (.ireturn, 1) := by decide +kernel
theorem dX12_needsBoth_0 : decode cX12_needsBoth 0 = .ok (.aload_n 0, 1) := by decide +kernel
theorem dX12_needsBoth_1 : decode cX12_needsBoth 1 = .ok (.lload_n 1, 1) := by decide +kernel
theorem dX12_needsBoth_2 : decode cX12_needsBoth 2 = .ok (.invokevirtual 259, 3) := by decide +kernel
theorem dX12_needsBoth_5 : decode cX12_needsBoth 5 = .ok (.ifCond .eq 17, 3) := by decide +kernel
theorem dX12_needsBoth_8 : decode cX12_needsBoth 8 = .ok (.aload_n 0, 1) := by decide +kernel
theorem dX12_needsBoth_9 : decode cX12_needsBoth 9 = .ok (.iload_n 3, 1) := by decide +kernel
theorem dX12_needsBoth_10 : decode cX12_needsBoth 10 = .ok (.iload 4, 2) := by decide +kernel
theorem dX12_needsBoth_12 : decode cX12_needsBoth 12 = .ok (.invokevirtual 262, 3) := by decide +kernel
theorem dX12_needsBoth_15 : decode cX12_needsBoth 15 = .ok (.ifCond .eq 7, 3) := by decide +kernel
theorem dX12_needsBoth_18 : decode cX12_needsBoth 18 = .ok (.iconst 1, 1) := by decide +kernel
theorem dX12_needsBoth_19 : decode cX12_needsBoth 19 = .ok (.goto 4, 3) := by decide +kernel
theorem dX12_needsBoth_22 : decode cX12_needsBoth 22 = .ok (.iconst 0, 1) := by decide +kernel
theorem dX12_needsBoth_23 : decode cX12_needsBoth 23 = .ok (.ireturn, 1) := by decide +kernel
theorem dX12_closes_0 : decode cX12_closes 0 = .ok (.aload_n 0, 1) := by decide +kernel
theorem dX12_closes_1 : decode cX12_closes 1 = .ok (.bipush 59, 2) := by decide +kernel
theorem dX12_closes_3 : decode cX12_closes 3 = .ok (.invokevirtual 189, 3) := by decide +kernel
theorem dX12_closes_6 : decode cX12_closes 6 = .ok (.ifCond .ne 9, 3) := by decide +kernel
theorem dX12_closes_9 : decode cX12_closes 9 = .ok (.aload_n 0, 1) := by decide +kernel
theorem dX12_closes_10 : decode cX12_closes 10 = .ok (.iconst 1, 1) := by decide +kernel
theorem dX12_closes_11 : decode cX12_closes 11 = .ok (.invokevirtual 193, 3) := by decide +kernel
theorem dX12_closes_14 : decode cX12_closes 14 = .ok (.ireturn, 1) := by decide +kernel
theorem dX12_closes_15 : decode cX12_closes 15 = .ok (.aload_n 0, 1) := by decide +kernel
theorem dX12_closes_16 : decode cX12_closes 16 = .ok (.invokevirtual 200, 3) := by decide +kernel
theorem dX12_closes_19 : decode cX12_closes 19 = .ok (.iconst 1, 1) := by decide +kernel
theorem dX12_closes_20 : decode cX12_closes 20 = .ok (.ireturn, 1) := by decide +kernel
theorem dX12_needsNew_0 : decode cX12_needsNew 0 = .ok (.aload_n 0, 1) := by decide +kernel
theorem dX12_needsNew_1 : decode cX12_needsNew 1 = .ok (.invokevirtual 266, 3) := by decide +kernel
theorem dX12_needsNew_4 : decode cX12_needsNew 4 = .ok (.ifCond .eq 9, 3) := by decide +kernel
theorem dX12_needsNew_7 : decode cX12_needsNew 7 = .ok (.aload_n 0, 1) := by decide +kernel
theorem dX12_needsNew_8 : decode cX12_needsNew 8 = .ok (.iconst 1, 1) := by decide +kernel
theorem dX12_needsNew_9 : decode cX12_needsNew 9 = .ok (.invokevirtual 193, 3) := by decide +kernel
theorem dX12_needsNew_12 : decode cX12_needsNew 12 = .ok (.ireturn, 1) := by decide +kernel
theorem dX12_needsNew_13 : decode cX12_needsNew 13 = .ok (.aload_n 0, 1) := by decide +kernel
theorem dX12_needsNew_14 : decode cX12_needsNew 14 = .ok (.iconst 1, 1) := by decide +kernel
theorem dX12_needsNew_15 : decode cX12_needsNew 15 = .ok (.invokevirtual 270, 3) := by decide +kernel
theorem dX12_needsNew_18 : decode cX12_needsNew 18 = .ok (.ifCond .ge 11, 3) := by decide +kernel
theorem dX12_needsNew_21 : decode cX12_needsNew 21 = .ok (.aload_n 0, 1) := by decide +kernel
theorem dX12_needsNew_22 : decode cX12_needsNew 22 = .ok (.iconst 1, 1) := by decide +kernel
theorem dX12_needsNew_23 : decode cX12_needsNew 23 = .ok (.invokevirtual 273, 3) := by decide +kernel
theorem dX12_needsNew_26 : decode cX12_needsNew 26 = .ok (.ifCond .lt 9, 3) := by decide +kernel
theorem dX12_needsNew_29 : decode cX12_needsNew 29 = .ok (.aload_n 0, 1) := by decide +kernel
theorem dX12_needsNew_30 : decode cX12_needsNew 30 = .ok (.iconst 3, 1) := by decide +kernel
theorem dX12_needsNew_31 : decode cX12_needsNew 31 = .ok (.invokevirtual 193, 3) := by decide +kernel
theorem dX12_needsNew_34 : decode cX12_needsNew 34 = .ok (.ireturn, 1) := by decide +kernel
theorem dX12_needsNew_35 : decode cX12_needsNew 35 = .ok (.aload_n 0, 1) := by decide +kernel
theorem dX12_needsNew_36 : decode cX12_needsNew 36 = .ok (.aload_n 0, 1) := by decide +kernel
theorem dX12_needsNew_37 : decode cX12_needsNew 37 = .ok (.getfield 147, 3) := by decide +kernel
theorem dX12_needsNew_40 : decode cX12_needsNew 40 = .ok (.putfield 276, 3) := by decide +kernel
theorem dX12_needsNew_43 : decode cX12_needsNew 43 = .ok (.aload_n 0, 1) := by decide +kernel
theorem dX12_needsNew_44 : decode cX12_needsNew 44 = .ok (.invokevirtual 200, 3) := by decide +kernel
theorem dX12_needsNew_47 : decode cX12_needsNew 47 = .ok (.iconst 1, 1) := by decide +kernel
theorem dX12_needsNew_48 : decode cX12_needsNew 48 = .ok (.ireturn, 1) := by decide +kernel
theorem dX12_needsTown_0 : decode cX12_needsTown 0 = .ok (.aload_n 0, 1) := by decide +kernel
theorem dX12_needsTown_1 : decode cX12_needsTown 1 = .ok (.invokevirtual 266, 3) := by decide +kernel
theorem dX12_needsTown_4 : decode cX12_needsTown 4 = .ok (.ifCond .eq 9, 3) := by decide +kernel
theorem dX12_needsTown_7 : decode cX12_needsTown 7 = .ok (.aload_n 0, 1) := by decide +kernel
theorem dX12_needsTown_8 : decode cX12_needsTown 8 = .ok (.iconst 1, 1) := by decide +kernel
theorem dX12_needsTown_9 : decode cX12_needsTown 9 = .ok (.invokevirtual 193, 3) := by decide +kernel
theorem dX12_needsTown_12 : decode cX12_needsTown 12 = .ok (.ireturn, 1) := by decide +kernel
theorem dX12_needsTown_13 : decode cX12_needsTown 13 = .ok (.aload_n 0, 1) := by decide +kernel
theorem dX12_needsTown_14 : decode cX12_needsTown 14 = .ok (.aload_n 0, 1) := by decide +kernel
theorem dX12_needsTown_15 : decode cX12_needsTown 15 = .ok (.iload_n 1, 1) := by decide +kernel
theorem dX12_needsTown_16 : decode cX12_needsTown 16 = .ok (.invokevirtual 270, 3) := by decide +kernel
theorem dX12_needsTown_19 : decode cX12_needsTown 19 = .ok (.putfield 256, 3) := by decide +kernel
theorem dX12_needsTown_22 : decode cX12_needsTown 22 = .ok (.aload_n 0, 1) := by decide +kernel
theorem dX12_needsTown_23 : decode cX12_needsTown 23 = .ok (.getfield 256, 3) := by decide +kernel
theorem dX12_needsTown_26 : decode cX12_needsTown 26 = .ok (.ifCond .ge 11, 3) := by decide +kernel
theorem dX12_needsTown_29 : decode cX12_needsTown 29 = .ok (.aload_n 0, 1) := by decide +kernel
theorem dX12_needsTown_30 : decode cX12_needsTown 30 = .ok (.iconst 2, 1) := by decide +kernel
theorem dX12_needsTown_31 : decode cX12_needsTown 31 = .ok (.invokevirtual 193, 3) := by decide +kernel
theorem dX12_needsTown_34 : decode cX12_needsTown 34 = .ok (.ifCond .eq 7, 3) := by decide +kernel
theorem dX12_needsTown_37 : decode cX12_needsTown 37 = .ok (.iconst 1, 1) := by decide +kernel
theorem dX12_needsTown_38 : decode cX12_needsTown 38 = .ok (.goto 4, 3) := by decide +kernel
theorem dX12_needsTown_41 : decode cX12_needsTown 41 = .ok (.iconst 0, 1) := by decide +kernel
theorem dX12_needsTown_42 : decode cX12_needsTown 42 = .ok (.ireturn, 1) := by decide +kernel
theorem dX12_needsPerson_0 : decode cX12_needsPerson 0 = .ok (.aload_n 0, 1) := by decide +kernel
theorem dX12_needsPerson_1 : decode cX12_needsPerson 1 = .ok (.invokevirtual 266, 3) := by decide +kernel
theorem dX12_needsPerson_4 : decode cX12_needsPerson 4 = .ok (.ifCond .eq 9, 3) := by decide +kernel
theorem dX12_needsPerson_7 : decode cX12_needsPerson 7 = .ok (.aload_n 0, 1) := by decide +kernel
theorem dX12_needsPerson_8 : decode cX12_needsPerson 8 = .ok (.iconst 1, 1) := by decide +kernel
theorem dX12_needsPerson_9 : decode cX12_needsPerson 9 = .ok (.invokevirtual 193, 3) := by decide +kernel
theorem dX12_needsPerson_12 : decode cX12_needsPerson 12 = .ok (.ireturn, 1) := by decide +kernel
theorem dX12_needsPerson_13 : decode cX12_needsPerson 13 = .ok (.aload_n 0, 1) := by decide +kernel
theorem dX12_needsPerson_14 : decode cX12_needsPerson 14 = .ok (.aload_n 0, 1) := by decide +kernel
theorem dX12_needsPerson_15 : decode cX12_needsPerson 15 = .ok (.iconst 0, 1) := by decide +kernel
theorem dX12_needsPerson_16 : decode cX12_needsPerson 16 = .ok (.invokevirtual 273, 3) := by decide +kernel
theorem dX12_needsPerson_19 : decode cX12_needsPerson 19 = .ok (.putfield 256, 3) := by decide +kernel
theorem dX12_needsPerson_22 : decode cX12_needsPerson 22 = .ok (.aload_n 0, 1) := by decide +kernel
theorem dX12_needsPerson_23 : decode cX12_needsPerson 23 = .ok (.getfield 256, 3) := by decide +kernel
theorem dX12_needsPerson_26 : decode cX12_needsPerson 26 = .ok (.ifCond .ge 11, 3) := by decide +kernel
theorem dX12_needsPerson_29 : decode cX12_needsPerson 29 = .ok (.aload_n 0, 1) := by decide +kernel
theorem dX12_needsPerson_30 : decode cX12_needsPerson 30 = .ok (.iconst 2, 1) := by decide +kernel
theorem dX12_needsPerson_31 : decode cX12_needsPerson 31 = .ok (.invokevirtual 193, 3) := by decide +kernel
theorem dX12_needsPerson_34 : decode cX12_needsPerson 34 = .ok (.ifCond .eq 7, 3) := by decide +kernel
theorem dX12_needsPerson_37 : decode cX12_needsPerson 37 = .ok (.iconst 1, 1) := by decide +kernel
theorem dX12_needsPerson_38 : decode cX12_needsPerson 38 = .ok (.goto 4, 3) := by decide +kernel
theorem dX12_needsPerson_41 : decode cX12_needsPerson 41 = .ok (.iconst 0, 1) := by decide +kernel
theorem dX12_needsPerson_42 : decode cX12_needsPerson 42 = .ok (.ireturn, 1) := by decide +kernel
theorem dX12_readsTown_0 : decode cX12_readsTown 0 = .ok (.bipush 6, 2) := by decide +kernel
theorem dX12_readsTown_2 : decode cX12_readsTown 2 = .ok (.aload_n 0, 1) := by decide +kernel
theorem dX12_readsTown_3 : decode cX12_readsTown 3 = .ok (.getfield 13, 3) := by decide +kernel
theorem dX12_readsTown_6 : decode cX12_readsTown 6 = .ok (.iconst 4, 1) := by decide +kernel
theorem dX12_readsTown_7 : decode cX12_readsTown 7 = .ok (.iaload, 1) := by decide +kernel
theorem dX12_readsTown_8 : decode cX12_readsTown 8 = .ok (.iadd, 1) := by decide +kernel
theorem dX12_readsTown_9 : decode cX12_readsTown 9 = .ok (.istore_n 1, 1) := by decide +kernel
theorem dX12_readsTown_10 : decode cX12_readsTown 10 = .ok (.iload_n 1, 1) := by decide +kernel
theorem dX12_readsTown_11 : decode cX12_readsTown 11 = .ok (.bipush 12, 2) := by decide +kernel
theorem dX12_readsTown_13 : decode cX12_readsTown 13 = .ok (.if_icmp .ne 9, 3) := by decide +kernel
theorem dX12_readsTown_16 : decode cX12_readsTown 16 = .ok (.aload_n 0, 1) := by decide +kernel
theorem dX12_readsTown_17 : decode cX12_readsTown 17 = .ok (.iconst 5, 1) := by decide +kernel
theorem dX12_readsTown_18 : decode cX12_readsTown 18 = .ok (.invokevirtual 193, 3) := by decide +kernel
theorem dX12_readsTown_21 : decode cX12_readsTown 21 = .ok (.ireturn, 1) := by decide +kernel
theorem dX12_readsTown_22 : decode cX12_readsTown 22 = .ok (.aload_n 0, 1) := by decide +kernel
theorem dX12_readsTown_23 : decode cX12_readsTown 23 = .ok (.invokevirtual 200, 3) := by decide +kernel
theorem dX12_readsTown_26 : decode cX12_readsTown 26 = .ok (.aload_n 0, 1) := by decide +kernel
theorem dX12_readsTown_27 : decode cX12_readsTown 27 = .ok (.invokevirtual 279, 3) := by decide +kernel
theorem dX12_readsTown_30 : decode cX12_readsTown 30 = .ok (.ifCond .eq 16, 3) := by decide +kernel
theorem dX12_readsTown_33 : decode cX12_readsTown 33 = .ok (.aload_n 0, 1) := by decide +kernel
theorem dX12_readsTown_34 : decode cX12_readsTown 34 = .ok (.ldc2_w 218, 3) := by decide +kernel
theorem dX12_readsTown_37 : decode cX12_readsTown 37 = .ok (.iconst 0, 1) := by decide +kernel
theorem dX12_readsTown_38 : decode cX12_readsTown 38 = .ok (.bipush 30, 2) := by decide +kernel
theorem dX12_readsTown_40 : decode cX12_readsTown 40 = .ok (.invokevirtual 282, 3) := by decide +kernel
theorem dX12_readsTown_43 : decode cX12_readsTown 43 = .ok (.ifCond .ne 5, 3) := by decide +kernel
theorem dX12_readsTown_46 : decode cX12_readsTown 46 = .ok (.iconst 0, 1) := by decide +kernel
theorem dX12_readsTown_47 : decode cX12_readsTown 47 = .ok (.ireturn, 1) := by decide +kernel
theorem dX12_readsTown_48 : decode cX12_readsTown 48 = .ok (.aload_n 0, 1) := by decide +kernel
theorem dX12_readsTown_49 : decode cX12_readsTown 49 = .ok (.getfield 23, 3) := by decide +kernel
theorem dX12_readsTown_52 : decode cX12_readsTown 52 = .ok (.iload_n 1, 1) := by decide +kernel
theorem dX12_readsTown_53 : decode cX12_readsTown 53 = .ok (.aload_n 0, 1) := by decide +kernel
theorem dX12_readsTown_54 : decode cX12_readsTown 54 = .ok (.getfield 256, 3) := by decide +kernel
theorem dX12_readsTown_57 : decode cX12_readsTown 57 = .ok (.iastore, 1) := by decide +kernel
theorem dX12_readsTown_58 : decode cX12_readsTown 58 = .ok (.aload_n 0, 1) := by decide +kernel
theorem dX12_readsTown_59 : decode cX12_readsTown 59 = .ok (.getfield 26, 3) := by decide +kernel
theorem dX12_readsTown_62 : decode cX12_readsTown 62 = .ok (.iload_n 1, 1) := by decide +kernel
theorem dX12_readsTown_63 : decode cX12_readsTown 63 = .ok (.iconst 0, 1) := by decide +kernel
theorem dX12_readsTown_64 : decode cX12_readsTown 64 = .ok (.iastore, 1) := by decide +kernel
theorem dX12_readsTown_65 : decode cX12_readsTown 65 = .ok (.aload_n 0, 1) := by decide +kernel
theorem dX12_readsTown_66 : decode cX12_readsTown 66 = .ok (.getfield 16, 3) := by decide +kernel
theorem dX12_readsTown_69 : decode cX12_readsTown 69 = .ok (.iload_n 1, 1) := by decide +kernel
theorem dX12_readsTown_70 : decode cX12_readsTown 70 = .ok (.aload_n 0, 1) := by decide +kernel
theorem dX12_readsTown_71 : decode cX12_readsTown 71 = .ok (.getfield 276, 3) := by decide +kernel
theorem dX12_readsTown_74 : decode cX12_readsTown 74 = .ok (.lastore, 1) := by decide +kernel
theorem dX12_readsTown_75 : decode cX12_readsTown 75 = .ok (.aload_n 0, 1) := by decide +kernel
theorem dX12_readsTown_76 : decode cX12_readsTown 76 = .ok (.getfield 13, 3) := by decide +kernel
theorem dX12_readsTown_79 : decode cX12_readsTown 79 = .ok (.iconst 4, 1) := by decide +kernel
theorem dX12_readsTown_80 : decode cX12_readsTown 80 = .ok (.dup2, 1) := by decide +kernel
theorem dX12_readsTown_81 : decode cX12_readsTown 81 = .ok (.iaload, 1) := by decide +kernel
theorem dX12_readsTown_82 : decode cX12_readsTown 82 = .ok (.iconst 1, 1) := by decide +kernel
theorem dX12_readsTown_83 : decode cX12_readsTown 83 = .ok (.iadd, 1) := by decide +kernel
theorem dX12_readsTown_84 : decode cX12_readsTown 84 = .ok (.iastore, 1) := by decide +kernel
theorem dX12_readsTown_85 : decode cX12_readsTown 85 = .ok (.aload_n 0, 1) := by decide +kernel
theorem dX12_readsTown_86 : decode cX12_readsTown 86 = .ok (.invokevirtual 286, 3) := by decide +kernel
theorem dX12_readsTown_89 : decode cX12_readsTown 89 = .ok (.ireturn, 1) := by decide +kernel
theorem dX12_readsRoad_0 : decode cX12_readsRoad 0 = .ok (.aload_n 0, 1) := by decide +kernel
theorem dX12_readsRoad_1 : decode cX12_readsRoad 1 = .ok (.invokevirtual 200, 3) := by decide +kernel
theorem dX12_readsRoad_4 : decode cX12_readsRoad 4 = .ok (.aload_n 0, 1) := by decide +kernel
theorem dX12_readsRoad_5 : decode cX12_readsRoad 5 = .ok (.iconst 1, 1) := by decide +kernel
theorem dX12_readsRoad_6 : decode cX12_readsRoad 6 = .ok (.invokevirtual 289, 3) := by decide +kernel
theorem dX12_readsRoad_9 : decode cX12_readsRoad 9 = .ok (.ifCond .ne 5, 3) := by decide +kernel
theorem dX12_readsRoad_12 : decode cX12_readsRoad 12 = .ok (.iconst 0, 1) := by decide +kernel
theorem dX12_readsRoad_13 : decode cX12_readsRoad 13 = .ok (.ireturn, 1) := by decide +kernel
theorem dX12_readsRoad_14 : decode cX12_readsRoad 14 = .ok (.aload_n 0, 1) := by decide +kernel
theorem dX12_readsRoad_15 : decode cX12_readsRoad 15 = .ok (.getfield 256, 3) := by decide +kernel
theorem dX12_readsRoad_18 : decode cX12_readsRoad 18 = .ok (.istore_n 1, 1) := by decide +kernel
theorem dX12_readsRoad_19 : decode cX12_readsRoad 19 = .ok (.aload_n 0, 1) := by decide +kernel
theorem dX12_readsRoad_20 : decode cX12_readsRoad 20 = .ok (.invokevirtual 200, 3) := by decide +kernel
theorem dX12_readsRoad_23 : decode cX12_readsRoad 23 = .ok (.aload_n 0, 1) := by decide +kernel
theorem dX12_readsRoad_24 : decode cX12_readsRoad 24 = .ok (.iconst 1, 1) := by decide +kernel
theorem dX12_readsRoad_25 : decode cX12_readsRoad 25 = .ok (.invokevirtual 289, 3) := by decide +kernel
theorem dX12_readsRoad_28 : decode cX12_readsRoad 28 = .ok (.ifCond .ne 5, 3) := by decide +kernel
theorem dX12_readsRoad_31 : decode cX12_readsRoad 31 = .ok (.iconst 0, 1) := by decide +kernel
theorem dX12_readsRoad_32 : decode cX12_readsRoad 32 = .ok (.ireturn, 1) := by decide +kernel
