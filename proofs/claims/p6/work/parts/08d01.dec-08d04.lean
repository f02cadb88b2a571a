theorem dX12_reads_119 : decode cX12_reads 119 = .ok (.iconst 2, 1) := by decide +kernel
theorem dX12_reads_120 : decode cX12_reads 120 = .ok (.iastore, 1) := by decide +kernel
theorem dX12_reads_121 : decode cX12_reads 121 = .ok (.aload_n 0, 1) := by decide +kernel
theorem dX12_reads_122 : decode cX12_reads 122 = .ok (.getfield 53, 3) := by decide +kernel
theorem dX12_reads_125 : decode cX12_reads 125 = .ok (.iload_n 1, 1) := by decide +kernel
theorem dX12_reads_126 : decode cX12_reads 126 = .ok (.iconst 0, 1) := by decide +kernel
theorem dX12_reads_127 : decode cX12_reads 127 = .ok (.bastore, 1) := by decide +kernel
theorem dX12_reads_128 : decode cX12_reads 128 = .ok (.goto 44, 3) := by decide +kernel
theorem dX12_reads_131 : decode cX12_reads 131 = .ok (.aload_n 0, 1) := by decide +kernel
theorem dX12_reads_132 : decode cX12_reads 132 = .ok (.iload_n 3, 1) := by decide +kernel
theorem dX12_reads_133 : decode cX12_reads 133 = .ok (.ifCond .le 7, 3) := by decide +kernel
theorem dX12_reads_136 : decode cX12_reads 136 = .ok (.iload_n 3, 1) := by decide +kernel
theorem dX12_reads_137 : decode cX12_reads 137 = .ok (.goto 10, 3) := by decide +kernel
theorem dX12_reads_140 : decode cX12_reads 140 = .ok (.bipush 100, 2) := by decide +kernel
theorem dX12_reads_142 : decode cX12_reads 142 = .ok (.aload_n 0, 1) := by decide +kernel
theorem dX12_reads_143 : decode cX12_reads 143 = .ok (.getfield 151, 3) := by decide +kernel
theorem dX12_reads_146 : decode cX12_reads 146 = .ok (.iadd, 1) := by decide +kernel
theorem dX12_reads_147 : decode cX12_reads 147 = .ok (.invokevirtual 196, 3) := by decide +kernel
theorem dX12_reads_150 : decode cX12_reads 150 = .ok (.iconst 0, 1) := by decide +kernel
theorem dX12_reads_151 : decode cX12_reads 151 = .ok (.istore_n 2, 1) := by decide +kernel
theorem dX12_reads_152 : decode cX12_reads 152 = .ok (.iload_n 1, 1) := by decide +kernel
theorem dX12_reads_153 : decode cX12_reads 153 = .ok (.ifCond .le 19, 3) := by decide +kernel
theorem dX12_reads_156 : decode cX12_reads 156 = .ok (.aload_n 0, 1) := by decide +kernel
theorem dX12_reads_157 : decode cX12_reads 157 = .ok (.getfield 50, 3) := by decide +kernel
theorem dX12_reads_160 : decode cX12_reads 160 = .ok (.iload_n 1, 1) := by decide +kernel
theorem dX12_reads_161 : decode cX12_reads 161 = .ok (.iaload, 1) := by decide +kernel
theorem dX12_reads_162 : decode cX12_reads 162 = .ok (.iconst 1, 1) := by decide +kernel
theorem dX12_reads_163 : decode cX12_reads 163 = .ok (.if_icmp .ne 9, 3) := by decide +kernel
theorem dX12_reads_166 : decode cX12_reads 166 = .ok (.iinc 1 (-1), 3) := by decide +kernel
theorem dX12_reads_169 : decode cX12_reads 169 = .ok (.goto (-17), 3) := by decide +kernel
theorem dX12_reads_172 : decode cX12_reads 172 = .ok (.aload_n 0, 1) := by decide +kernel
theorem dX12_reads_173 : decode cX12_reads 173 = .ok (.invokevirtual 200, 3) := by decide +kernel
theorem dX12_reads_176 : decode cX12_reads 176 = .ok (.goto (-165), 3) := by decide +kernel
theorem dX12_reads_179 : decode cX12_reads 179 = .ok (.aload_n 0, 1) := by decide +kernel
theorem dX12_reads_180 : decode cX12_reads 180 = .ok (.bipush 43, 2) := by decide +kernel
theorem dX12_reads_182 : decode cX12_reads 182 = .ok (.invokevirtual 189, 3) := by decide +kernel
theorem dX12_reads_185 : decode cX12_reads 185 = .ok (.ifCond .ne 21, 3) := by decide +kernel
theorem dX12_reads_188 : decode cX12_reads 188 = .ok (.aload_n 0, 1) := by decide +kernel
theorem dX12_reads_189 : decode cX12_reads 189 = .ok (.bipush 45, 2) := by decide +kernel
theorem dX12_reads_191 : decode cX12_reads 191 = .ok (.invokevirtual 189, 3) := by decide +kernel
theorem dX12_reads_194 : decode cX12_reads 194 = .ok (.ifCond .ne 12, 3) := by decide +kernel
theorem dX12_reads_197 : decode cX12_reads 197 = .ok (.aload_n 0, 1) := by decide +kernel
theorem dX12_reads_198 : decode cX12_reads 198 = .ok (.bipush 42, 2) := by decide +kernel
theorem dX12_reads_200 : decode cX12_reads 200 = .ok (.invokevirtual 189, 3) := by decide +kernel
theorem dX12_reads_203 : decode cX12_reads 203 = .ok (.ifCond .eq 42, 3) := by decide +kernel
theorem dX12_reads_206 : decode cX12_reads 206 = .ok (.aload_n 0, 1) := by decide +kernel
theorem dX12_reads_207 : decode cX12_reads 207 = .ok (.aload_n 0, 1) := by decide +kernel
theorem dX12_reads_208 : decode cX12_reads 208 = .ok (.bipush 43, 2) := by decide +kernel
theorem dX12_reads_210 : decode cX12_reads 210 = .ok (.invokevirtual 189, 3) := by decide +kernel
theorem dX12_reads_213 : decode cX12_reads 213 = .ok (.ifCond .eq 8, 3) := by decide +kernel
theorem dX12_reads_216 : decode cX12_reads 216 = .ok (.bipush 20, 2) := by decide +kernel
theorem dX12_reads_218 : decode cX12_reads 218 = .ok (.goto 19, 3) := by decide +kernel
theorem dX12_reads_221 : decode cX12_reads 221 = .ok (.aload_n 0, 1) := by decide +kernel
theorem dX12_reads_222 : decode cX12_reads 222 = .ok (.bipush 45, 2) := by decide +kernel
theorem dX12_reads_224 : decode cX12_reads 224 = .ok (.invokevirtual 189, 3) := by decide +kernel
theorem dX12_reads_227 : decode cX12_reads 227 = .ok (.ifCond .eq 8, 3) := by decide +kernel
theorem dX12_reads_230 : decode cX12_reads 230 = .ok (.bipush 21, 2) := by decide +kernel
theorem dX12_reads_232 : decode cX12_reads 232 = .ok (.goto 5, 3) := by decide +kernel
theorem dX12_reads_235 : decode cX12_reads 235 = .ok (.bipush 22, 2) := by decide +kernel
theorem dX12_reads_237 : decode cX12_reads 237 = .ok (.invokevirtual 196, 3) := by decide +kernel
theorem dX12_reads_240 : decode cX12_reads 240 = .ok (.iconst 1, 1) := by decide +kernel
theorem dX12_reads_241 : decode cX12_reads 241 = .ok (.istore_n 2, 1) := by decide +kernel
theorem dX12_reads_242 : decode cX12_reads 242 = .ok (.goto 182, 3) := by decide +kernel
theorem dX12_reads_245 : decode cX12_reads 245 = .ok (.aload_n 0, 1) := by decide +kernel
theorem dX12_reads_246 : decode cX12_reads 246 = .ok (.bipush 60, 2) := by decide +kernel
theorem dX12_reads_248 : decode cX12_reads 248 = .ok (.invokevirtual 189, 3) := by decide +kernel
theorem dX12_reads_251 : decode cX12_reads 251 = .ok (.ifCond .ne 12, 3) := by decide +kernel
theorem dX12_reads_254 : decode cX12_reads 254 = .ok (.aload_n 0, 1) := by decide +kernel
theorem dX12_reads_255 : decode cX12_reads 255 = .ok (.bipush 61, 2) := by decide +kernel
theorem dX12_reads_257 : decode cX12_reads 257 = .ok (.invokevirtual 189, 3) := by decide +kernel
theorem dX12_reads_260 : decode cX12_reads 260 = .ok (.ifCond .eq 44, 3) := by decide +kernel
theorem dX12_reads_263 : decode cX12_reads 263 = .ok (.aload_n 0, 1) := by decide +kernel
theorem dX12_reads_264 : decode cX12_reads 264 = .ok (.getfield 53, 3) := by decide +kernel
theorem dX12_reads_267 : decode cX12_reads 267 = .ok (.iload_n 1, 1) := by decide +kernel
theorem dX12_reads_268 : decode cX12_reads 268 = .ok (.baload, 1) := by decide +kernel
theorem dX12_reads_269 : decode cX12_reads 269 = .ok (.ifCond .ne 35, 3) := by decide +kernel
theorem dX12_reads_272 : decode cX12_reads 272 = .ok (.aload_n 0, 1) := by decide +kernel
theorem dX12_reads_273 : decode cX12_reads 273 = .ok (.aload_n 0, 1) := by decide +kernel
theorem dX12_reads_274 : decode cX12_reads 274 = .ok (.bipush 60, 2) := by decide +kernel
theorem dX12_reads_276 : decode cX12_reads 276 = .ok (.invokevirtual 189, 3) := by decide +kernel
theorem dX12_reads_279 : decode cX12_reads 279 = .ok (.ifCond .eq 8, 3) := by decide +kernel
theorem dX12_reads_282 : decode cX12_reads 282 = .ok (.bipush 24, 2) := by decide +kernel
theorem dX12_reads_284 : decode cX12_reads 284 = .ok (.goto 5, 3) := by decide +kernel
theorem dX12_reads_287 : decode cX12_reads 287 = .ok (.bipush 25, 2) := by decide +kernel
theorem dX12_reads_289 : decode cX12_reads 289 = .ok (.invokevirtual 196, 3) := by decide +kernel
theorem dX12_reads_292 : decode cX12_reads 292 = .ok (.aload_n 0, 1) := by decide +kernel
theorem dX12_reads_293 : decode cX12_reads 293 = .ok (.getfield 53, 3) := by decide +kernel
theorem dX12_reads_296 : decode cX12_reads 296 = .ok (.iload_n 1, 1) := by decide +kernel
theorem dX12_reads_297 : decode cX12_reads 297 = .ok (.iconst 1, 1) := by decide +kernel
theorem dX12_reads_298 : decode cX12_reads 298 = .ok (.bastore, 1) := by decide +kernel
theorem dX12_reads_299 : decode cX12_reads 299 = .ok (.iconst 1, 1) := by decide +kernel
theorem dX12_reads_300 : decode cX12_reads 300 = .ok (.istore_n 2, 1) := by decide +kernel
theorem dX12_reads_301 : decode cX12_reads 301 = .ok (.goto 123, 3) := by decide +kernel
theorem dX12_reads_304 : decode cX12_reads 304 = .ok (.aload_n 0, 1) := by decide +kernel
theorem dX12_reads_305 : decode cX12_reads 305 = .ok (.ldc2_w 203, 3) := by decide +kernel
theorem dX12_reads_308 : decode cX12_reads 308 = .ok (.invokevirtual 185, 3) := by decide +kernel
theorem dX12_reads_311 : decode cX12_reads 311 = .ok (.ifCond .ne 13, 3) := by decide +kernel
theorem dX12_reads_314 : decode cX12_reads 314 = .ok (.aload_n 0, 1) := by decide +kernel
theorem dX12_reads_315 : decode cX12_reads 315 = .ok (.ldc2_w 205, 3) := by decide +kernel
theorem dX12_reads_318 : decode cX12_reads 318 = .ok (.invokevirtual 185, 3) := by decide +kernel
theorem dX12_reads_321 : decode cX12_reads 321 = .ok (.ifCond .eq 36, 3) := by decide +kernel
theorem dX12_reads_324 : decode cX12_reads 324 = .ok (.aload_n 0, 1) := by decide +kernel
theorem dX12_reads_325 : decode cX12_reads 325 = .ok (.aload_n 0, 1) := by decide +kernel
theorem dX12_reads_326 : decode cX12_reads 326 = .ok (.ldc2_w 203, 3) := by decide +kernel
theorem dX12_reads_329 : decode cX12_reads 329 = .ok (.invokevirtual 185, 3) := by decide +kernel
theorem dX12_reads_332 : decode cX12_reads 332 = .ok (.ifCond .eq 8, 3) := by decide +kernel
theorem dX12_reads_335 : decode cX12_reads 335 = .ok (.bipush 26, 2) := by decide +kernel
theorem dX12_reads_337 : decode cX12_reads 337 = .ok (.goto 5, 3) := by decide +kernel
theorem dX12_reads_340 : decode cX12_reads 340 = .ok (.bipush 27, 2) := by decide +kernel
theorem dX12_reads_342 : decode cX12_reads 342 = .ok (.invokevirtual 196, 3) := by decide +kernel
theorem dX12_reads_345 : decode cX12_reads 345 = .ok (.aload_n 0, 1) := by decide +kernel
theorem dX12_reads_346 : decode cX12_reads 346 = .ok (.getfield 53, 3) := by decide +kernel
theorem dX12_reads_349 : decode cX12_reads 349 = .ok (.iload_n 1, 1) := by decide +kernel
theorem dX12_reads_350 : decode cX12_reads 350 = .ok (.iconst 0, 1) := by decide +kernel
theorem dX12_reads_351 : decode cX12_reads 351 = .ok (.bastore, 1) := by decide +kernel
theorem dX12_reads_352 : decode cX12_reads 352 = .ok (.iconst 1, 1) := by decide +kernel
theorem dX12_reads_353 : decode cX12_reads 353 = .ok (.istore_n 2, 1) := by decide +kernel
theorem dX12_reads_354 : decode cX12_reads 354 = .ok (.goto 70, 3) := by decide +kernel
theorem dX12_reads_357 : decode cX12_reads 357 = .ok (.aload_n 0, 1) := by decide +kernel
theorem dX12_reads_358 : decode cX12_reads 358 = .ok (.bipush 41, 2) := by decide +kernel
theorem dX12_reads_360 : decode cX12_reads 360 = .ok (.invokevirtual 189, 3) := by decide +kernel
theorem dX12_reads_363 : decode cX12_reads 363 = .ok (.ifCond .eq 36, 3) := by decide +kernel
theorem dX12_reads_366 : decode cX12_reads 366 = .ok (.iload_n 1, 1) := by decide +kernel
theorem dX12_reads_367 : decode cX12_reads 367 = .ok (.ifCond .le 32, 3) := by decide +kernel
theorem dX12_reads_370 : decode cX12_reads 370 = .ok (.aload_n 0, 1) := by decide +kernel
theorem dX12_reads_371 : decode cX12_reads 371 = .ok (.bipush 29, 2) := by decide +kernel
theorem dX12_reads_373 : decode cX12_reads 373 = .ok (.invokevirtual 196, 3) := by decide +kernel
theorem dX12_reads_376 : decode cX12_reads 376 = .ok (.iinc 1 (-1), 3) := by decide +kernel
theorem dX12_reads_379 : decode cX12_reads 379 = .ok (.iload_n 1, 1) := by decide +kernel
theorem dX12_reads_380 : decode cX12_reads 380 = .ok (.ifCond .le 44, 3) := by decide +kernel
theorem dX12_reads_383 : decode cX12_reads 383 = .ok (.aload_n 0, 1) := by decide +kernel
theorem dX12_reads_384 : decode cX12_reads 384 = .ok (.getfield 50, 3) := by decide +kernel
theorem dX12_reads_387 : decode cX12_reads 387 = .ok (.iload_n 1, 1) := by decide +kernel
theorem dX12_reads_388 : decode cX12_reads 388 = .ok (.iaload, 1) := by decide +kernel
theorem dX12_reads_389 : decode cX12_reads 389 = .ok (.iconst 1, 1) := by decide +kernel
theorem dX12_reads_390 : decode cX12_reads 390 = .ok (.if_icmp .ne 34, 3) := by decide +kernel
theorem dX12_reads_393 : decode cX12_reads 393 = .ok (.iinc 1 (-1), 3) := by decide +kernel
theorem dX12_reads_396 : decode cX12_reads 396 = .ok (.goto (-17), 3) := by decide +kernel
theorem dX12_reads_399 : decode cX12_reads 399 = .ok (.iload_n 1, 1) := by decide +kernel
theorem dX12_reads_400 : decode cX12_reads 400 = .ok (.ifCond .ne 18, 3) := by decide +kernel
theorem dX12_reads_403 : decode cX12_reads 403 = .ok (.aload_n 0, 1) := by decide +kernel
theorem dX12_reads_404 : decode cX12_reads 404 = .ok (.bipush 59, 2) := by decide +kernel
theorem dX12_reads_406 : decode cX12_reads 406 = .ok (.invokevirtual 189, 3) := by decide +kernel
theorem dX12_reads_409 : decode cX12_reads 409 = .ok (.ifCond .eq 9, 3) := by decide +kernel
theorem dX12_reads_412 : decode cX12_reads 412 = .ok (.aload_n 0, 1) := by decide +kernel
theorem dX12_reads_413 : decode cX12_reads 413 = .ok (.invokevirtual 200, 3) := by decide +kernel
theorem dX12_reads_416 : decode cX12_reads 416 = .ok (.iconst 1, 1) := by decide +kernel
theorem dX12_reads_417 : decode cX12_reads 417 = .ok (.ireturn, 1) := by decide +kernel
theorem dX12_reads_418 : decode cX12_reads 418 = .ok (.aload_n 0, 1) := by decide +kernel
theorem dX12_reads_419 : decode cX12_reads 419 = .ok (.iconst 1, 1) := by decide +kernel
theorem dX12_reads_420 : decode cX12_reads 420 = .ok (.invokevirtual 193, 3) := by decide +kernel
theorem dX12_reads_423 : decode cX12_reads 423 = .ok (.ireturn, 1) := by decide +kernel
theorem dX12_reads_424 : decode cX12_reads 424 = .ok (.aload_n 0, 1) := by decide +kernel
theorem dX12_reads_425 : decode cX12_reads 425 = .ok (.invokevirtual 200, 3) := by decide +kernel
theorem dX12_reads_428 : decode cX12_reads 428 = .ok (.goto (-417), 3) := by decide +kernel
theorem dX12_opens_0 : decode cX12_opens 0 = .ok (.aload_n 0, 1) := by decide +kernel
theorem dX12_opens_1 : decode cX12_opens 1 = .ok (.getfield 60, 3) := by decide +kernel
theorem dX12_opens_4 : decode cX12_opens 4 = .ok (.iload_n 1, 1) := by decide +kernel
theorem dX12_opens_5 : decode cX12_opens 5 = .ok (.iconst 0, 1) := by decide +kernel
theorem dX12_opens_6 : decode cX12_opens 6 = .ok (.iastore, 1) := by decide +kernel
theorem dX12_opens_7 : decode cX12_opens 7 = .ok (.aload_n 0, 1) := by decide +kernel
theorem dX12_opens_8 : decode cX12_opens 8 = .ok (.getfield 66, 3) := by decide +kernel
theorem dX12_opens_11 : decode cX12_opens 11 = .ok (.iload_n 1, 1) := by decide +kernel
theorem dX12_opens_12 : decode cX12_opens 12 = .ok (.iconst 0, 1) := by decide +kernel
theorem dX12_opens_13 : decode cX12_opens 13 = .ok (.iastore, 1) := by decide +kernel
theorem dX12_opens_14 : decode cX12_opens 14 = .ok (.aload_n 0, 1) := by decide +kernel
theorem dX12_opens_15 : decode cX12_opens 15 = .ok (.getfield 69, 3) := by decide +kernel
theorem dX12_opens_18 : decode cX12_opens 18 = .ok (.iload_n 1, 1) := by decide +kernel
theorem dX12_opens_19 : decode cX12_opens 19 = .ok (.iconst 0, 1) := by decide +kernel
theorem dX12_opens_20 : decode cX12_opens 20 = .ok (.iastore, 1) := by decide +kernel
theorem dX12_opens_21 : decode cX12_opens 21 = .ok (.aload_n 0, 1) := by decide +kernel
theorem dX12_opens_22 : decode cX12_opens 22 = .ok (.getfield 72, 3) := by decide +kernel
theorem dX12_opens_25 : decode cX12_opens 25 = .ok (.iload_n 1, 1) := by decide +kernel
theorem dX12_opens_26 : decode cX12_opens 26 = .ok (.bipush 20, 2) := by decide +kernel
theorem dX12_opens_28 : decode cX12_opens 28 = .ok (.iastore, 1) := by decide +kernel
theorem dX12_opens_29 : decode cX12_opens 29 = .ok (.aload_n 0, 1) := by decide +kernel
theorem dX12_opens_30 : decode cX12_opens 30 = .ok (.getfield 78, 3) := by decide +kernel
theorem dX12_opens_33 : decode cX12_opens 33 = .ok (.iload_n 1, 1) := by decide +kernel
theorem dX12_opens_34 : decode cX12_opens 34 = .ok (.iconst 0, 1) := by decide +kernel
theorem dX12_opens_35 : decode cX12_opens 35 = .ok (.iastore, 1) := by decide +kernel
theorem dX12_opens_36 : decode cX12_opens 36 = .ok (.return_, 1) := by decide +kernel
theorem dX12_sums_0 : decode cX12_sums 0 = .ok (.aload_n 0, 1) := by decide +kernel
theorem dX12_sums_1 : decode cX12_sums 1 = .ok (.getfield 69, 3) := by decide +kernel
theorem dX12_sums_4 : decode cX12_sums 4 = .ok (.iload_n 1, 1) := by decide +kernel
theorem dX12_sums_5 : decode cX12_sums 5 = .ok (.aload_n 0, 1) := by decide +kernel
theorem dX12_sums_6 : decode cX12_sums 6 = .ok (.getfield 72, 3) := by decide +kernel
theorem dX12_sums_9 : decode cX12_sums 9 = .ok (.iload_n 1, 1) := by decide +kernel
theorem dX12_sums_10 : decode cX12_sums 10 = .ok (.iaload, 1) := by decide +kernel
theorem dX12_sums_11 : decode cX12_sums 11 = .ok (.bipush 21, 2) := by decide +kernel
theorem dX12_sums_13 : decode cX12_sums 13 = .ok (.if_icmp .ne 19, 3) := by decide +kernel
theorem dX12_sums_16 : decode cX12_sums 16 = .ok (.aload_n 0, 1) := by decide +kernel
theorem dX12_sums_17 : decode cX12_sums 17 = .ok (.getfield 69, 3) := by decide +kernel
theorem dX12_sums_20 : decode cX12_sums 20 = .ok (.iload_n 1, 1) := by decide +kernel
theorem dX12_sums_21 : decode cX12_sums 21 = .ok (.iaload, 1) := by decide +kernel
theorem dX12_sums_22 : decode cX12_sums 22 = .ok (.aload_n 0, 1) := by decide +kernel
theorem dX12_sums_23 : decode cX12_sums 23 = .ok (.getfield 75, 3) := by decide +kernel
theorem dX12_sums_26 : decode cX12_sums 26 = .ok (.iload_n 1, 1) := by decide +kernel
theorem dX12_sums_27 : decode cX12_sums 27 = .ok (.iaload, 1) := by decide +kernel
theorem dX12_sums_28 : decode cX12_sums 28 = .ok (.isub, 1) := by decide +kernel
theorem dX12_sums_29 : decode cX12_sums 29 = .ok (.goto 16, 3) := by decide +kernel
theorem dX12_sums_32 : decode cX12_sums 32 = .ok (.aload_n 0, 1) := by decide +kernel
theorem dX12_sums_33 : decode cX12_sums 33 = .ok (.getfield 69, 3) := by decide +kernel
theorem dX12_sums_36 : decode cX12_sums 36 = .ok (.iload_n 1, 1) := by decide +kernel
theorem dX12_sums_37 : decode cX12_sums 37 = .ok (.iaload, 1) := by decide +kernel
theorem dX12_sums_38 : decode cX12_sums 38 = .ok (.aload_n 0, 1) := by decide +kernel
theorem dX12_sums_39 : decode cX12_sums 39 = .ok (.getfield 75, 3) := by decide +kernel
theorem dX12_sums_42 : decode cX12_sums 42 = .ok (.iload_n 1, 1) := by decide +kernel
theorem dX12_sums_43 : decode cX12_sums 43 = .ok (.iaload, 1) := by decide +kernel
theorem dX12_sums_44 : decode cX12_sums 44 = .ok (.iadd, 1) := by decide +kernel
theorem dX12_sums_45 : decode cX12_sums 45 = .ok (.iastore, 1) := by decide +kernel
theorem dX12_sums_46 : decode cX12_sums 46 = .ok (.aload_n 0, 1) := by decide +kernel
theorem dX12_sums_47 : decode cX12_sums 47 = .ok (.getfield 78, 3) := by decide +kernel
theorem dX12_sums_50 : decode cX12_sums 50 = .ok (.iload_n 1, 1) := by decide +kernel
theorem dX12_sums_51 : decode cX12_sums 51 = .ok (.iconst 0, 1) := by decide +kernel
theorem dX12_sums_52 : decode cX12_sums 52 = .ok (.iastore, 1) := by decide +kernel
theorem dX12_sums_53 : decode cX12_sums 53 = .ok (.return_, 1) := by decide +kernel
theorem dX12_tests_0 : decode cX12_tests 0 = .ok (.aload_n 0, 1) := by decide +kernel
theorem dX12_tests_1 : decode cX12_tests 1 = .ok (.iload_n 1, 1) := by decide +kernel
theorem dX12_tests_2 : decode cX12_tests 2 = .ok (.invokevirtual 207, 3) := by decide +kernel
theorem dX12_tests_5 : decode cX12_tests 5 = .ok (.aload_n 0, 1) := by decide +kernel
theorem dX12_tests_6 : decode cX12_tests 6 = .ok (.getfield 69, 3) := by decide +kernel
theorem dX12_tests_9 : decode cX12_tests 9 = .ok (.iload_n 1, 1) := by decide +kernel
theorem dX12_tests_10 : decode cX12_tests 10 = .ok (.iaload, 1) := by decide +kernel
theorem dX12_tests_11 : decode cX12_tests 11 = .ok (.istore_n 2, 1) := by decide +kernel
theorem dX12_tests_12 : decode cX12_tests 12 = .ok (.aload_n 0, 1) := by decide +kernel
theorem dX12_tests_13 : decode cX12_tests 13 = .ok (.getfield 66, 3) := by decide +kernel
theorem dX12_tests_16 : decode cX12_tests 16 = .ok (.iload_n 1, 1) := by decide +kernel
theorem dX12_tests_17 : decode cX12_tests 17 = .ok (.iaload, 1) := by decide +kernel
theorem dX12_tests_18 : decode cX12_tests 18 = .ok (.bipush 24, 2) := by decide +kernel
theorem dX12_tests_20 : decode cX12_tests 20 = .ok (.if_icmp .ne 24, 3) := by decide +kernel
theorem dX12_tests_23 : decode cX12_tests 23 = .ok (.aload_n 0, 1) := by decide +kernel
theorem dX12_tests_24 : decode cX12_tests 24 = .ok (.getfield 63, 3) := by decide +kernel
theorem dX12_tests_27 : decode cX12_tests 27 = .ok (.iload_n 1, 1) := by decide +kernel
theorem dX12_tests_28 : decode cX12_tests 28 = .ok (.iaload, 1) := by decide +kernel
theorem dX12_tests_29 : decode cX12_tests 29 = .ok (.aload_n 0, 1) := by decide +kernel
theorem dX12_tests_30 : decode cX12_tests 30 = .ok (.getfield 69, 3) := by decide +kernel
theorem dX12_tests_33 : decode cX12_tests 33 = .ok (.iload_n 1, 1) := by decide +kernel
theorem dX12_tests_34 : decode cX12_tests 34 = .ok (.iaload, 1) := by decide +kernel
theorem dX12_tests_35 : decode cX12_tests 35 = .ok (.if_icmp .ge 7, 3) := by decide +kernel
theorem dX12_tests_38 : decode cX12_tests 38 = .ok (.iconst 1, 1) := by decide +kernel
theorem dX12_tests_39 : decode cX12_tests 39 = .ok (.goto 4, 3) := by decide +kernel
theorem dX12_tests_42 : decode cX12_tests 42 = .ok (.iconst 0, 1) := by decide +kernel
theorem dX12_tests_43 : decode cX12_tests 43 = .ok (.istore_n 2, 1) := by decide +kernel
theorem dX12_tests_44 : decode cX12_tests 44 = .ok (.aload_n 0, 1) := by decide +kernel
theorem dX12_tests_45 : decode cX12_tests 45 = .ok (.getfield 66, 3) := by decide +kernel
theorem dX12_tests_48 : decode cX12_tests 48 = .ok (.iload_n 1, 1) := by decide +kernel
theorem dX12_tests_49 : decode cX12_tests 49 = .ok (.iaload, 1) := by decide +kernel
theorem dX12_tests_50 : decode cX12_tests 50 = .ok (.bipush 25, 2) := by decide +kernel
theorem dX12_tests_52 : decode cX12_tests 52 = .ok (.if_icmp .ne 24, 3) := by decide +kernel
theorem dX12_tests_55 : decode cX12_tests 55 = .ok (.aload_n 0, 1) := by decide +kernel
theorem dX12_tests_56 : decode cX12_tests 56 = .ok (.getfield 63, 3) := by decide +kernel
theorem dX12_tests_59 : decode cX12_tests 59 = .ok (.iload_n 1, 1) := by decide +kernel
theorem dX12_tests_60 : decode cX12_tests 60 = .ok (.iaload, 1) := by decide +kernel
theorem dX12_tests_61 : decode cX12_tests 61 = .ok (.aload_n 0, 1) := by decide +kernel
theorem dX12_tests_62 : decode cX12_tests 62 = .ok (.getfield 69, 3) := by decide +kernel
theorem dX12_tests_65 : decode cX12_tests 65 = .ok (.iload_n 1, 1) := by decide +kernel
theorem dX12_tests_66 : decode cX12_tests 66 = .ok (.iaload, 1) := by decide +kernel
theorem dX12_tests_67 : decode cX12_tests 67 = .ok (.if_icmp .ne 7, 3) := by decide +kernel
theorem dX12_tests_70 : decode cX12_tests 70 = .ok (.iconst 1, 1) := by decide +kernel
theorem dX12_tests_71 : decode cX12_tests 71 = .ok (.goto 4, 3) := by decide +kernel
theorem dX12_tests_74 : decode cX12_tests 74 = .ok (.iconst 0, 1) := by decide +kernel
theorem dX12_tests_75 : decode cX12_tests 75 = .ok (.istore_n 2, 1) := by decide +kernel
theorem dX12_tests_76 : decode cX12_tests 76 = .ok (.aload_n 0, 1) := by decide +kernel
theorem dX12_tests_77 : decode cX12_tests 77 = .ok (.getfield 60, 3) := by decide +kernel
theorem dX12_tests_80 : decode cX12_tests 80 = .ok (.iload_n 1, 1) := by decide +kernel
theorem dX12_tests_81 : decode cX12_tests 81 = .ok (.iaload, 1) := by decide +kernel
theorem dX12_tests_82 : decode cX12_tests 82 = .ok (.bipush 26, 2) := by decide +kernel
theorem dX12_tests_84 : decode cX12_tests 84 = .ok (.if_icmp .ne 22, 3) := by decide +kernel
theorem dX12_tests_87 : decode cX12_tests 87 = .ok (.aload_n 0, 1) := by decide +kernel
theorem dX12_tests_88 : decode cX12_tests 88 = .ok (.getfield 57, 3) := by decide +kernel
theorem dX12_tests_91 : decode cX12_tests 91 = .ok (.iload_n 1, 1) := by decide +kernel
theorem dX12_tests_92 : decode cX12_tests 92 = .ok (.iaload, 1) := by decide +kernel
theorem dX12_tests_93 : decode cX12_tests 93 = .ok (.ifCond .eq 11, 3) := by decide +kernel
theorem dX12_tests_96 : decode cX12_tests 96 = .ok (.iload_n 2, 1) := by decide +kernel
theorem dX12_tests_97 : decode cX12_tests 97 = .ok (.ifCond .eq 7, 3) := by decide +kernel
theorem dX12_tests_100 : decode cX12_tests 100 = .ok (.iconst 1, 1) := by decide +kernel
theorem dX12_tests_101 : decode cX12_tests 101 = .ok (.goto 4, 3) := by decide +kernel
theorem dX12_tests_104 : decode cX12_tests 104 = .ok (.iconst 0, 1) := by decide +kernel
theorem dX12_tests_105 : decode cX12_tests 105 = .ok (.istore_n 2, 1) := by decide +kernel
theorem dX12_tests_106 : decode cX12_tests 106 = .ok (.aload_n 0, 1) := by decide +kernel
theorem dX12_tests_107 : decode cX12_tests 107 = .ok (.getfield 60, 3) := by decide +kernel
theorem dX12_tests_110 : decode cX12_tests 110 = .ok (.iload_n 1, 1) := by decide +kernel
theorem dX12_tests_111 : decode cX12_tests 111 = .ok (.iaload, 1) := by decide +kernel
theorem dX12_tests_112 : decode cX12_tests 112 = .ok (.bipush 27, 2) := by decide +kernel
theorem dX12_tests_114 : decode cX12_tests 114 = .ok (.if_icmp .ne 22, 3) := by decide +kernel
theorem dX12_tests_117 : decode cX12_tests 117 = .ok (.aload_n 0, 1) := by decide +kernel
theorem dX12_tests_118 : decode cX12_tests 118 = .ok (.getfield 57, 3) := by decide +kernel
theorem dX12_tests_121 : decode cX12_tests 121 = .ok (.iload_n 1, 1) := by decide +kernel
theorem dX12_tests_122 : decode cX12_tests 122 = .ok (.iaload, 1) := by decide +kernel
theorem dX12_tests_123 : decode cX12_tests 123 = .ok (.ifCond .ne 7, 3) := by decide +kernel
theorem dX12_tests_126 : decode cX12_tests 126 = .ok (.iload_n 2, 1) := by decide +kernel
theorem dX12_tests_127 : decode cX12_tests 127 = .ok (.ifCond .eq 7, 3) := by decide +kernel
theorem dX12_tests_130 : decode cX12_tests 130 = .ok (.iconst 1, 1) := by decide +kernel
theorem dX12_tests_131 : decode cX12_tests 131 = .ok (.goto 4, 3) := by decide +kernel
theorem dX12_tests_134 : decode cX12_tests 134 = .ok (.iconst 0, 1) := by decide +kernel
theorem dX12_tests_135 : decode cX12_tests 135 = .ok (.istore_n 2, 1) := by decide +kernel
theorem dX12_tests_136 : decode cX12_tests 136 = .ok (.aload_n 0, 1) := by decide +kernel
theorem dX12_tests_137 : decode cX12_tests 137 = .ok (.getfield 57, 3) := by decide +kernel
theorem dX12_tests_140 : decode cX12_tests 140 = .ok (.iload_n 1, 1) := by decide +kernel
theorem dX12_tests_141 : decode cX12_tests 141 = .ok (.iload_n 2, 1) := by decide +kernel
theorem dX12_tests_142 : decode cX12_tests 142 = .ok (.iastore, 1) := by decide +kernel
theorem dX12_tests_143 : decode cX12_tests 143 = .ok (.aload_n 0, 1) := by decide +kernel
theorem dX12_tests_144 : decode cX12_tests 144 = .ok (.getfield 66, 3) := by decide +kernel
theorem dX12_tests_147 : decode cX12_tests 147 = .ok (.iload_n 1, 1) := by decide +kernel
theorem dX12_tests_148 : decode cX12_tests 148 = .ok (.iconst 0, 1) := by decide +kernel
theorem dX12_tests_149 : decode cX12_tests 149 = .ok (.iastore, 1) := by decide +kernel
theorem dX12_tests_150 : decode cX12_tests 150 = .ok (.aload_n 0, 1) := by decide +kernel
theorem dX12_tests_151 : decode cX12_tests 151 = .ok (.getfield 69, 3) := by decide +kernel
theorem dX12_tests_154 : decode cX12_tests 154 = .ok (.iload_n 1, 1) := by decide +kernel
theorem dX12_tests_155 : decode cX12_tests 155 = .ok (.iconst 0, 1) := by decide +kernel
theorem dX12_tests_156 : decode cX12_tests 156 = .ok (.iastore, 1) := by decide +kernel
theorem dX12_tests_157 : decode cX12_tests 157 = .ok (.aload_n 0, 1) := by decide +kernel
theorem dX12_tests_158 : decode cX12_tests 158 = .ok (.getfield 72, 3) := by decide +kernel
theorem dX12_tests_161 : decode cX12_tests 161 = .ok (.iload_n 1, 1) := by decide +kernel
theorem dX12_tests_162 : decode cX12_tests 162 = .ok (.bipush 20, 2) := by decide +kernel
theorem dX12_tests_164 : decode cX12_tests 164 = .ok (.iastore, 1) := by decide +kernel
theorem dX12_tests_165 : decode cX12_tests 165 = .ok (.return_, 1) := by decide +kernel
theorem dX12_worked_0 : decode cX12_worked 0 = .ok (.iconst 0, 1) := by decide +kernel
theorem dX12_worked_1 : decode cX12_worked 1 = .ok (.istore_n 2, 1) := by decide +kernel
theorem dX12_worked_2 : decode cX12_worked 2 = .ok (.aload_n 0, 1) := by decide +kernel
theorem dX12_worked_3 : decode cX12_worked 3 = .ok (.iconst 0, 1) := by decide +kernel
theorem dX12_worked_4 : decode cX12_worked 4 = .ok (.invokevirtual 210, 3) := by decide +kernel
theorem dX12_worked_7 : decode cX12_worked 7 = .ok (.aload_n 0, 1) := by decide +kernel
theorem dX12_worked_8 : decode cX12_worked 8 = .ok (.getfield 41, 3) := by decide +kernel
theorem dX12_worked_11 : decode cX12_worked 11 = .ok (.iload_n 1, 1) := by decide +kernel
theorem dX12_worked_12 : decode cX12_worked 12 = .ok (.iaload, 1) := by decide +kernel
theorem dX12_worked_13 : decode cX12_worked 13 = .ok (.istore_n 3, 1) := by decide +kernel
theorem dX12_worked_14 : decode cX12_worked 14 = .ok (.iload_n 3, 1) := by decide +kernel
theorem dX12_worked_15 : decode cX12_worked 15 = .ok (.aload_n 0, 1) := by decide +kernel
theorem dX12_worked_16 : decode cX12_worked 16 = .ok (.getfield 44, 3) := by decide +kernel
theorem dX12_worked_19 : decode cX12_worked 19 = .ok (.iload_n 1, 1) := by decide +kernel
theorem dX12_worked_20 : decode cX12_worked 20 = .ok (.iaload, 1) := by decide +kernel
theorem dX12_worked_21 : decode cX12_worked 21 = .ok (.if_icmp .ge 314, 3) := by decide +kernel
theorem dX12_worked_24 : decode cX12_worked 24 = .ok (.aload_n 0, 1) := by decide +kernel
theorem dX12_worked_25 : decode cX12_worked 25 = .ok (.getfield 47, 3) := by decide +kernel
theorem dX12_worked_28 : decode cX12_worked 28 = .ok (.iload_n 3, 1) := by decide +kernel
theorem dX12_worked_29 : decode cX12_worked 29 = .ok (.iaload, 1) := by decide +kernel
theorem dX12_worked_30 : decode cX12_worked 30 = .ok (.istore 4, 2) := by decide +kernel
theorem dX12_worked_32 : decode cX12_worked 32 = .ok (.iload 4, 2) := by decide +kernel
theorem dX12_worked_34 : decode cX12_worked 34 = .ok (.bipush 28, 2) := by decide +kernel
theorem dX12_worked_36 : decode cX12_worked 36 = .ok (.if_icmp .eq 10, 3) := by decide +kernel
theorem dX12_worked_39 : decode cX12_worked 39 = .ok (.iload 4, 2) := by decide +kernel
theorem dX12_worked_41 : decode cX12_worked 41 = .ok (.bipush 30, 2) := by decide +kernel
theorem dX12_worked_43 : decode cX12_worked 43 = .ok (.if_icmp .ne 32, 3) := by decide +kernel
theorem dX12_worked_46 : decode cX12_worked 46 = .ok (.iinc 2 1, 3) := by decide +kernel
theorem dX12_worked_49 : decode cX12_worked 49 = .ok (.aload_n 0, 1) := by decide +kernel
theorem dX12_worked_50 : decode cX12_worked 50 = .ok (.getfield 81, 3) := by decide +kernel
theorem dX12_worked_53 : decode cX12_worked 53 = .ok (.iload_n 2, 1) := by decide +kernel
theorem dX12_worked_54 : decode cX12_worked 54 = .ok (.iload 4, 2) := by decide +kernel
theorem dX12_worked_56 : decode cX12_worked 56 = .ok (.bipush 30, 2) := by decide +kernel
theorem dX12_worked_58 : decode cX12_worked 58 = .ok (.if_icmp .ne 7, 3) := by decide +kernel
theorem dX12_worked_61 : decode cX12_worked 61 = .ok (.iconst 1, 1) := by decide +kernel
theorem dX12_worked_62 : decode cX12_worked 62 = .ok (.goto 4, 3) := by decide +kernel
theorem dX12_worked_65 : decode cX12_worked 65 = .ok (.iconst 0, 1) := by decide +kernel
theorem dX12_worked_66 : decode cX12_worked 66 = .ok (.iastore, 1) := by decide +kernel
theorem dX12_worked_67 : decode cX12_worked 67 = .ok (.aload_n 0, 1) := by decide +kernel
theorem dX12_worked_68 : decode cX12_worked 68 = .ok (.iload_n 2, 1) := by decide +kernel
theorem dX12_worked_69 : decode cX12_worked 69 = .ok (.invokevirtual 210, 3) := by decide +kernel
theorem dX12_worked_72 : decode cX12_worked 72 = .ok (.goto 257, 3) := by decide +kernel
theorem dX12_worked_75 : decode cX12_worked 75 = .ok (.iload 4, 2) := by decide +kernel
theorem dX12_worked_77 : decode cX12_worked 77 = .ok (.bipush 20, 2) := by decide +kernel
theorem dX12_worked_79 : decode cX12_worked 79 = .ok (.if_icmp .eq 10, 3) := by decide +kernel
theorem dX12_worked_82 : decode cX12_worked 82 = .ok (.iload 4, 2) := by decide +kernel
theorem dX12_worked_84 : decode cX12_worked 84 = .ok (.bipush 21, 2) := by decide +kernel
theorem dX12_worked_86 : decode cX12_worked 86 = .ok (.if_icmp .ne 19, 3) := by decide +kernel
theorem dX12_worked_89 : decode cX12_worked 89 = .ok (.aload_n 0, 1) := by decide +kernel
theorem dX12_worked_90 : decode cX12_worked 90 = .ok (.iload_n 2, 1) := by decide +kernel
theorem dX12_worked_91 : decode cX12_worked 91 = .ok (.invokevirtual 207, 3) := by decide +kernel
theorem dX12_worked_94 : decode cX12_worked 94 = .ok (.aload_n 0, 1) := by decide +kernel
theorem dX12_worked_95 : decode cX12_worked 95 = .ok (.getfield 72, 3) := by decide +kernel
theorem dX12_worked_98 : decode cX12_worked 98 = .ok (.iload_n 2, 1) := by decide +kernel
theorem dX12_worked_99 : decode cX12_worked 99 = .ok (.iload 4, 2) := by decide +kernel
theorem dX12_worked_101 : decode cX12_worked 101 = .ok (.iastore, 1) := by decide +kernel
theorem dX12_worked_102 : decode cX12_worked 102 = .ok (.goto 227, 3) := by decide +kernel
theorem dX12_worked_105 : decode cX12_worked 105 = .ok (.iload 4, 2) := by decide +kernel
theorem dX12_worked_107 : decode cX12_worked 107 = .ok (.bipush 22, 2) := by decide +kernel
theorem dX12_worked_109 : decode cX12_worked 109 = .ok (.if_icmp .ne 14, 3) := by decide +kernel
theorem dX12_worked_112 : decode cX12_worked 112 = .ok (.aload_n 0, 1) := by decide +kernel
theorem dX12_worked_113 : decode cX12_worked 113 = .ok (.getfield 78, 3) := by decide +kernel
theorem dX12_worked_116 : decode cX12_worked 116 = .ok (.iload_n 2, 1) := by decide +kernel
theorem dX12_worked_117 : decode cX12_worked 117 = .ok (.iload 4, 2) := by decide +kernel
theorem dX12_worked_119 : decode cX12_worked 119 = .ok (.iastore, 1) := by decide +kernel
theorem dX12_worked_120 : decode cX12_worked 120 = .ok (.goto 209, 3) := by decide +kernel
theorem dX12_worked_123 : decode cX12_worked 123 = .ok (.iload 4, 2) := by decide +kernel
theorem dX12_worked_125 : decode cX12_worked 125 = .ok (.bipush 24, 2) := by decide +kernel
theorem dX12_worked_127 : decode cX12_worked 127 = .ok (.if_icmp .eq 10, 3) := by decide +kernel
theorem dX12_worked_130 : decode cX12_worked 130 = .ok (.iload 4, 2) := by decide +kernel
theorem dX12_worked_132 : decode cX12_worked 132 = .ok (.bipush 25, 2) := by decide +kernel
theorem dX12_worked_134 : decode cX12_worked 134 = .ok (.if_icmp .ne 46, 3) := by decide +kernel
theorem dX12_worked_137 : decode cX12_worked 137 = .ok (.aload_n 0, 1) := by decide +kernel
theorem dX12_worked_138 : decode cX12_worked 138 = .ok (.iload_n 2, 1) := by decide +kernel
theorem dX12_worked_139 : decode cX12_worked 139 = .ok (.invokevirtual 207, 3) := by decide +kernel
theorem dX12_worked_142 : decode cX12_worked 142 = .ok (.aload_n 0, 1) := by decide +kernel
theorem dX12_worked_143 : decode cX12_worked 143 = .ok (.getfield 63, 3) := by decide +kernel
theorem dX12_worked_146 : decode cX12_worked 146 = .ok (.iload_n 2, 1) := by decide +kernel
theorem dX12_worked_147 : decode cX12_worked 147 = .ok (.aload_n 0, 1) := by decide +kernel
theorem dX12_worked_148 : decode cX12_worked 148 = .ok (.getfield 69, 3) := by decide +kernel
theorem dX12_worked_151 : decode cX12_worked 151 = .ok (.iload_n 2, 1) := by decide +kernel
theorem dX12_worked_152 : decode cX12_worked 152 = .ok (.iaload, 1) := by decide +kernel
theorem dX12_worked_153 : decode cX12_worked 153 = .ok (.iastore, 1) := by decide +kernel
theorem dX12_worked_154 : decode cX12_worked 154 = .ok (.aload_n 0, 1) := by decide +kernel
theorem dX12_worked_155 : decode cX12_worked 155 = .ok (.getfield 66, 3) := by decide +kernel
theorem dX12_worked_158 : decode cX12_worked 158 = .ok (.iload_n 2, 1) := by decide +kernel
theorem dX12_worked_159 : decode cX12_worked 159 = .ok (.iload 4, 2) := by decide +kernel
theorem dX12_worked_161 : decode cX12_worked 161 = .ok (.iastore, 1) := by decide +kernel
theorem dX12_worked_162 : decode cX12_worked 162 = .ok (.aload_n 0, 1) := by decide +kernel
theorem dX12_worked_163 : decode cX12_worked 163 = .ok (.getfield 69, 3) := by decide +kernel
theorem dX12_worked_166 : decode cX12_worked 166 = .ok (.iload_n 2, 1) := by decide +kernel
theorem dX12_worked_167 : decode cX12_worked 167 = .ok (.iconst 0, 1) := by decide +kernel
theorem dX12_worked_168 : decode cX12_worked 168 = .ok (.iastore, 1) := by decide +kernel
theorem dX12_worked_169 : decode cX12_worked 169 = .ok (.aload_n 0, 1) := by decide +kernel
theorem dX12_worked_170 : decode cX12_worked 170 = .ok (.getfield 72, 3) := by decide +kernel
theorem dX12_worked_173 : decode cX12_worked 173 = .ok (.iload_n 2, 1) := by decide +kernel
theorem dX12_worked_174 : decode cX12_worked 174 = .ok (.bipush 20, 2) := by decide +kernel
theorem dX12_worked_176 : decode cX12_worked 176 = .ok (.iastore, 1) := by decide +kernel
theorem dX12_worked_177 : decode cX12_worked 177 = .ok (.goto 152, 3) := by decide +kernel
theorem dX12_worked_180 : decode cX12_worked 180 = .ok (.iload 4, 2) := by decide +kernel
theorem dX12_worked_182 : decode cX12_worked 182 = .ok (.bipush 26, 2) := by decide +kernel
theorem dX12_worked_184 : decode cX12_worked 184 = .ok (.if_icmp .eq 10, 3) := by decide +kernel
theorem dX12_worked_187 : decode cX12_worked 187 = .ok (.iload 4, 2) := by decide +kernel
theorem dX12_worked_189 : decode cX12_worked 189 = .ok (.bipush 27, 2) := by decide +kernel
theorem dX12_worked_191 : decode cX12_worked 191 = .ok (.if_icmp .ne 19, 3) := by decide +kernel
theorem dX12_worked_194 : decode cX12_worked 194 = .ok (.aload_n 0, 1) := by decide +kernel
theorem dX12_worked_195 : decode cX12_worked 195 = .ok (.iload_n 2, 1) := by decide +kernel
theorem dX12_worked_196 : decode cX12_worked 196 = .ok (.invokevirtual 213, 3) := by decide +kernel
theorem dX12_worked_199 : decode cX12_worked 199 = .ok (.aload_n 0, 1) := by decide +kernel
theorem dX12_worked_200 : decode cX12_worked 200 = .ok (.getfield 60, 3) := by decide +kernel
theorem dX12_worked_203 : decode cX12_worked 203 = .ok (.iload_n 2, 1) := by decide +kernel
theorem dX12_worked_204 : decode cX12_worked 204 = .ok (.iload 4, 2) := by decide +kernel
theorem dX12_worked_206 : decode cX12_worked 206 = .ok (.iastore, 1) := by decide +kernel
theorem dX12_worked_207 : decode cX12_worked 207 = .ok (.goto 122, 3) := by decide +kernel
theorem dX12_worked_210 : decode cX12_worked 210 = .ok (.iload 4, 2) := by decide +kernel
theorem dX12_worked_212 : decode cX12_worked 212 = .ok (.bipush 100, 2) := by decide +kernel
theorem dX12_worked_214 : decode cX12_worked 214 = .ok (.if_icmp .lt 11, 3) := by decide +kernel
theorem dX12_worked_217 : decode cX12_worked 217 = .ok (.iload 4, 2) := by decide +kernel
theorem dX12_worked_219 : decode cX12_worked 219 = .ok (.bipush 100, 2) := by decide +kernel
theorem dX12_worked_221 : decode cX12_worked 221 = .ok (.isub, 1) := by decide +kernel
theorem dX12_worked_222 : decode cX12_worked 222 = .ok (.goto 21, 3) := by decide +kernel
theorem dX12_worked_225 : decode cX12_worked 225 = .ok (.iload 4, 2) := by decide +kernel
theorem dX12_worked_227 : decode cX12_worked 227 = .ok (.bipush 20, 2) := by decide +kernel
theorem dX12_worked_229 : decode cX12_worked 229 = .ok (.if_icmp .ge 13, 3) := by decide +kernel
theorem dX12_worked_232 : decode cX12_worked 232 = .ok (.aload_n 0, 1) := by decide +kernel
theorem dX12_worked_233 : decode cX12_worked 233 = .ok (.getfield 84, 3) := by decide +kernel
theorem dX12_worked_236 : decode cX12_worked 236 = .ok (.iload 4, 2) := by decide +kernel
theorem dX12_worked_238 : decode cX12_worked 238 = .ok (.iaload, 1) := by decide +kernel
theorem dX12_worked_239 : decode cX12_worked 239 = .ok (.goto 4, 3) := by decide +kernel
theorem dX12_worked_242 : decode cX12_worked 242 = .ok (.iconst 0, 1) := by decide +kernel
theorem dX12_worked_243 : decode cX12_worked 243 = .ok (.istore 5, 2) := by decide +kernel
theorem dX12_worked_245 : decode cX12_worked 245 = .ok (.iload 4, 2) := by decide +kernel
theorem dX12_worked_247 : decode cX12_worked 247 = .ok (.bipush 29, 2) := by decide +kernel
theorem dX12_worked_249 : decode cX12_worked 249 = .ok (.if_icmp .ne 19, 3) := by decide +kernel
theorem dX12_worked_252 : decode cX12_worked 252 = .ok (.aload_n 0, 1) := by decide +kernel
theorem dX12_worked_253 : decode cX12_worked 253 = .ok (.iload_n 2, 1) := by decide +kernel
theorem dX12_worked_254 : decode cX12_worked 254 = .ok (.invokevirtual 213, 3) := by decide +kernel
theorem dX12_worked_257 : decode cX12_worked 257 = .ok (.aload_n 0, 1) := by decide +kernel
theorem dX12_worked_258 : decode cX12_worked 258 = .ok (.getfield 57, 3) := by decide +kernel
theorem dX12_worked_261 : decode cX12_worked 261 = .ok (.iload_n 2, 1) := by decide +kernel
theorem dX12_worked_262 : decode cX12_worked 262 = .ok (.iaload, 1) := by decide +kernel
theorem dX12_worked_263 : decode cX12_worked 263 = .ok (.istore 5, 2) := by decide +kernel
theorem dX12_worked_265 : decode cX12_worked 265 = .ok (.iinc 2 (-1), 3) := by decide +kernel
theorem dX12_worked_268 : decode cX12_worked 268 = .ok (.iload_n 2, 1) := by decide +kernel
theorem dX12_worked_269 : decode cX12_worked 269 = .ok (.ifCond .le 31, 3) := by decide +kernel
theorem dX12_worked_272 : decode cX12_worked 272 = .ok (.aload_n 0, 1) := by decide +kernel
theorem dX12_worked_273 : decode cX12_worked 273 = .ok (.getfield 81, 3) := by decide +kernel
theorem dX12_worked_276 : decode cX12_worked 276 = .ok (.iload_n 2, 1) := by decide +kernel
theorem dX12_worked_277 : decode cX12_worked 277 = .ok (.iaload, 1) := by decide +kernel
theorem dX12_worked_278 : decode cX12_worked 278 = .ok (.iconst 1, 1) := by decide +kernel
theorem dX12_worked_279 : decode cX12_worked 279 = .ok (.if_icmp .ne 21, 3) := by decide +kernel
theorem dX12_worked_282 : decode cX12_worked 282 = .ok (.iload 5, 2) := by decide +kernel
theorem dX12_worked_284 : decode cX12_worked 284 = .ok (.ifCond .ne 7, 3) := by decide +kernel
theorem dX12_worked_287 : decode cX12_worked 287 = .ok (.iconst 1, 1) := by decide +kernel
theorem dX12_worked_288 : decode cX12_worked 288 = .ok (.goto 4, 3) := by decide +kernel
theorem dX12_worked_291 : decode cX12_worked 291 = .ok (.iconst 0, 1) := by decide +kernel
theorem dX12_worked_292 : decode cX12_worked 292 = .ok (.istore 5, 2) := by decide +kernel
theorem dX12_worked_294 : decode cX12_worked 294 = .ok (.iinc 2 (-1), 3) := by decide +kernel
theorem dX12_worked_297 : decode cX12_worked 297 = .ok (.goto (-29), 3) := by decide +kernel
theorem dX12_worked_300 : decode cX12_worked 300 = .ok (.aload_n 0, 1) := by decide +kernel
theorem dX12_worked_301 : decode cX12_worked 301 = .ok (.getfield 75, 3) := by decide +kernel
theorem dX12_worked_304 : decode cX12_worked 304 = .ok (.iload_n 2, 1) := by decide +kernel
theorem dX12_worked_305 : decode cX12_worked 305 = .ok (.aload_n 0, 1) := by decide +kernel
theorem dX12_worked_306 : decode cX12_worked 306 = .ok (.getfield 78, 3) := by decide +kernel
theorem dX12_worked_309 : decode cX12_worked 309 = .ok (.iload_n 2, 1) := by decide +kernel
theorem dX12_worked_310 : decode cX12_worked 310 = .ok (.iaload, 1) := by decide +kernel
theorem dX12_worked_311 : decode cX12_worked 311 = .ok (.ifCond .ne 8, 3) := by decide +kernel
theorem dX12_worked_314 : decode cX12_worked 314 = .ok (.iload 5, 2) := by decide +kernel
theorem dX12_worked_316 : decode cX12_worked 316 = .ok (.goto 12, 3) := by decide +kernel
theorem dX12_worked_319 : decode cX12_worked 319 = .ok (.aload_n 0, 1) := by decide +kernel
theorem dX12_worked_320 : decode cX12_worked 320 = .ok (.getfield 75, 3) := by decide +kernel
theorem dX12_worked_323 : decode cX12_worked 323 = .ok (.iload_n 2, 1) := by decide +kernel
theorem dX12_worked_324 : decode cX12_worked 324 = .ok (.iaload, 1) := by decide +kernel
theorem dX12_worked_325 : decode cX12_worked 325 = .ok (.iload 5, 2) := by decide +kernel
theorem dX12_worked_327 : decode cX12_worked 327 = .ok (.imul, 1) := by decide +kernel
theorem dX12_worked_328 : decode cX12_worked 328 = .ok (.iastore, 1) := by decide +kernel
theorem dX12_worked_329 : decode cX12_worked 329 = .ok (.iinc 3 1, 3) := by decide +kernel
theorem dX12_worked_332 : decode cX12_worked 332 = .ok (.goto (-318), 3) := by decide +kernel
theorem dX12_worked_335 : decode cX12_worked 335 = .ok (.aload_n 0, 1) := by decide +kernel
theorem dX12_worked_336 : decode cX12_worked 336 = .ok (.iconst 0, 1) := by decide +kernel
theorem dX12_worked_337 : decode cX12_worked 337 = .ok (.invokevirtual 213, 3) := by decide +kernel
theorem dX12_worked_340 : decode cX12_worked 340 = .ok (.aload_n 0, 1) := by decide +kernel
theorem dX12_worked_341 : decode cX12_worked 341 = .ok (.getfield 57, 3) := by decide +kernel
theorem dX12_worked_344 : decode cX12_worked 344 = .ok (.iconst 0, 1) := by decide +kernel
theorem dX12_worked_345 : decode cX12_worked 345 = .ok (.iaload, 1) := by decide +kernel
theorem dX12_worked_346 : decode cX12_worked 346 = .ok (.ireturn, 1) := by decide +kernel
theorem dX12_isKept_0 : decode cX12_isKept 0 = .ok (.aload_n 0, 1) := by decide +kernel
theorem dX12_isKept_1 : decode cX12_isKept 1 = .ok (.getfield 154, 3) := by decide +kernel
theorem dX12_isKept_4 : decode cX12_isKept 4 = .ok (.iconst 1, 1) := by decide +kernel
theorem dX12_isKept_5 : decode cX12_isKept 5 = .ok (.if_icmp .eq 5, 3) := by decide +kernel
theorem dX12_isKept_8 : decode cX12_isKept 8 = .ok (.iconst 1, 1) := by decide +kernel
theorem dX12_isKept_9 : decode cX12_isKept 9 = .ok (.ireturn, 1) := by decide +kernel
theorem dX12_isKept_10 : decode cX12_isKept 10 = .ok (.aload_n 0, 1) := by decide +kernel
theorem dX12_isKept_11 : decode cX12_isKept 11 = .ok (.getfield 147, 3) := by decide +kernel
theorem dX12_isKept_14 : decode cX12_isKept 14 = .ok (.ldc2_w 216, 3) := by decide +kernel
theorem dX12_isKept_17 : decode cX12_isKept 17 = .ok (.lcmp, 1) := by decide +kernel
theorem dX12_isKept_18 : decode cX12_isKept 18 = .ok (.ifCond .eq 223, 3) := by decide +kernel
theorem dX12_isKept_21 : decode cX12_isKept 21 = .ok (.aload_n 0, 1) := by decide +kernel
theorem dX12_isKept_22 : decode cX12_isKept 22 = .ok (.getfield 147, 3) := by decide +kernel
theorem dX12_isKept_25 : decode cX12_isKept 25 = .ok (.ldc2_w 218, 3) := by decide +kernel
theorem dX12_isKept_28 : decode cX12_isKept 28 = .ok (.lcmp, 1) := by decide +kernel
theorem dX12_isKept_29 : decode cX12_isKept 29 = .ok (.ifCond .eq 212, 3) := by decide +kernel
theorem dX12_isKept_32 : decode cX12_isKept 32 = .ok (.aload_n 0, 1) := by decide +kernel
theorem dX12_isKept_33 : decode cX12_isKept 33 = .ok (.getfield 147, 3) := by decide +kernel
theorem dX12_isKept_36 : decode cX12_isKept 36 = .ok (.ldc2_w 220, 3) := by decide +kernel
theorem dX12_isKept_39 : decode cX12_isKept 39 = .ok (.lcmp, 1) := by decide +kernel
theorem dX12_isKept_40 : decode cX12_isKept 40 = .ok (.ifCond .eq 201, 3) := by decide +kernel
theorem dX12_isKept_43 : decode cX12_isKept 43 = .ok (.aload_n 0, 1) := by decide +kernel
theorem dX12_isKept_44 : decode cX12_isKept 44 = .ok (.getfield 147, 3) := by decide +kernel
theorem dX12_isKept_47 : decode cX12_isKept 47 = .ok (.ldc2_w 222, 3) := by decide +kernel
theorem dX12_isKept_50 : decode cX12_isKept 50 = .ok (.lcmp, 1) := by decide +kernel
theorem dX12_isKept_51 : decode cX12_isKept 51 = .ok (.ifCond .eq 190, 3) := by decide +kernel
theorem dX12_isKept_54 : decode cX12_isKept 54 = .ok (.aload_n 0, 1) := by decide +kernel
theorem dX12_isKept_55 : decode cX12_isKept 55 = .ok (.getfield 147, 3) := by decide +kernel
theorem dX12_isKept_58 : decode cX12_isKept 58 = .ok (.ldc2_w 224, 3) := by decide +kernel
theorem dX12_isKept_61 : decode cX12_isKept 61 = .ok (.lcmp, 1) := by decide +kernel
theorem dX12_isKept_62 : decode cX12_isKept 62 = .ok (.ifCond .eq 179, 3) := by decide +kernel
theorem dX12_isKept_65 : decode cX12_isKept 65 = .ok (.aload_n 0, 1) := by decide +kernel
theorem dX12_isKept_66 : decode cX12_isKept 66 = .ok (.getfield 147, 3) := by decide +kernel
theorem dX12_isKept_69 : decode cX12_isKept 69 = .ok (.ldc2_w 226, 3) := by decide +kernel
theorem dX12_isKept_72 : decode cX12_isKept 72 = .ok (.lcmp, 1) := by decide +kernel
theorem dX12_isKept_73 : decode cX12_isKept 73 = .ok (.ifCond .eq 168, 3) := by decide +kernel
theorem dX12_isKept_76 : decode cX12_isKept 76 = .ok (.aload_n 0, 1) := by decide +kernel
theorem dX12_isKept_77 : decode cX12_isKept 77 = .ok (.getfield 147, 3) := by decide +kernel
theorem dX12_isKept_80 : decode cX12_isKept 80 = .ok (.ldc2_w 228, 3) := by decide +kernel
theorem dX12_isKept_83 : decode cX12_isKept 83 = .ok (.lcmp, 1) := by decide +kernel
theorem dX12_isKept_84 : decode cX12_isKept 84 = .ok (.ifCond .eq 157, 3) := by decide +kernel
theorem dX12_isKept_87 : decode cX12_isKept 87 = .ok (.aload_n 0, 1) := by decide +kernel
theorem dX12_isKept_88 : decode cX12_isKept 88 = .ok (.getfield 147, 3) := by decide +kernel
theorem dX12_isKept_91 : decode cX12_isKept 91 = .ok (.ldc2_w 230, 3) := by decide +kernel
theorem dX12_isKept_94 : decode cX12_isKept 94 = .ok (.lcmp, 1) := by decide +kernel
theorem dX12_isKept_95 : decode cX12_isKept 95 = .ok (.ifCond .eq 146, 3) := by decide +kernel
theorem dX12_isKept_98 : decode cX12_isKept 98 = .ok (.aload_n 0, 1) := by decide +kernel
theorem dX12_isKept_99 : decode cX12_isKept 99 = .ok (.getfield 147, 3) := by decide +kernel
theorem dX12_isKept_102 : decode cX12_isKept 102 = .ok (.ldc2_w 232, 3) := by decide +kernel
theorem dX12_isKept_105 : decode cX12_isKept 105 = .ok (.lcmp, 1) := by decide +kernel
theorem dX12_isKept_106 : decode cX12_isKept 106 = .ok (.ifCond .eq 135, 3) := by decide +kernel
theorem dX12_isKept_109 : decode cX12_isKept 109 = .ok (.aload_n 0, 1) := by decide +kernel
theorem dX12_isKept_110 : decode cX12_isKept 110 = .ok (.getfield 147, 3) := by decide +kernel
theorem dX12_isKept_113 : decode cX12_isKept 113 = .ok (.ldc2_w 234, 3) := by decide +kernel
theorem dX12_isKept_116 : decode cX12_isKept 116 = .ok (.lcmp, 1) := by decide +kernel
theorem dX12_isKept_117 : decode cX12_isKept 117 = .ok (.ifCond .eq 124, 3) := by decide +kernel
theorem dX12_isKept_120 : decode cX12_isKept 120 = .ok (.aload_n 0, 1) := by decide +kernel
theorem dX12_isKept_121 : decode cX12_isKept 121 = .ok (.getfield 147, 3) := by decide +kernel
theorem dX12_isKept_124 : decode cX12_isKept 124 = .ok (.ldc2_w 236, 3) := by decide +kernel
theorem dX12_isKept_127 : decode cX12_isKept 127 = .ok (.lcmp, 1) := by decide +kernel
theorem dX12_isKept_128 : decode cX12_isKept 128 = .ok (.ifCond .eq 113, 3) := by decide +kernel
theorem dX12_isKept_131 : decode cX12_isKept 131 = .ok (.aload_n 0, 1) := by decide +kernel
theorem dX12_isKept_132 : decode cX12_isKept 132 = .ok (.getfield 147, 3) := by decide +kernel
theorem dX12_isKept_135 : decode cX12_isKept 135 = .ok (.ldc2_w 238, 3) := by decide +kernel
theorem dX12_isKept_138 : decode cX12_isKept 138 = .ok (.lcmp, 1) := by decide +kernel
theorem dX12_isKept_139 : decode cX12_isKept 139 = .ok (.ifCond .eq 102, 3) := by decide +kernel
theorem dX12_isKept_142 : decode cX12_isKept 142 = .ok (.aload_n 0, 1) := by decide +kernel
theorem dX12_isKept_143 : decode cX12_isKept 143 = .ok (.getfield 147, 3) := by decide +kernel
theorem dX12_isKept_146 : decode cX12_isKept 146 = .ok (.ldc2_w 240, 3) := by decide +kernel
theorem dX12_isKept_149 : decode cX12_isKept 149 = .ok (.lcmp, 1) := by decide +kernel
theorem dX12_isKept_150 : decode cX12_isKept 150 = .ok (.ifCond .eq 91, 3) := by decide +kernel
theorem dX12_isKept_153 : decode cX12_isKept 153 = .ok (.aload_n 0, 1) := by decide +kernel
theorem dX12_isKept_154 : decode cX12_isKept 154 = .ok (.getfield 147, 3) := by decide +kernel
theorem dX12_isKept_157 : decode cX12_isKept 157 = .ok (.ldc2_w 242, 3) := by decide +kernel
theorem dX12_isKept_160 : decode cX12_isKept 160 = .ok (.lcmp, 1) := by decide +kernel
theorem dX12_isKept_161 : decode cX12_isKept 161 = .ok (.ifCond .eq 80, 3) := by decide +kernel
theorem dX12_isKept_164 : decode cX12_isKept 164 = .ok (.aload_n 0, 1) := by decide +kernel
theorem dX12_isKept_165 : decode cX12_isKept 165 = .ok (.getfield 147, 3) := by decide +kernel
theorem dX12_isKept_168 : decode cX12_isKept 168 = .ok (.ldc2_w 244, 3) := by decide +kernel
theorem dX12_isKept_171 : decode cX12_isKept 171 = .ok (.lcmp, 1) := by decide +kernel
theorem dX12_isKept_172 : decode cX12_isKept 172 = .ok (.ifCond .eq 69, 3) := by decide +kernel
theorem dX12_isKept_175 : decode cX12_isKept 175 = .ok (.aload_n 0, 1) := by decide +kernel
theorem dX12_isKept_176 : decode cX12_isKept 176 = .ok (.getfield 147, 3) := by decide +kernel
theorem dX12_isKept_179 : decode cX12_isKept 179 = .ok (.ldc2_w 246, 3) := by decide +kernel
theorem dX12_isKept_182 : decode cX12_isKept 182 = .ok (.lcmp, 1) := by decide +kernel
theorem dX12_isKept_183 : decode cX12_isKept 183 = .ok (.ifCond .eq 58, 3) := by decide +kernel
theorem dX12_isKept_186 : decode cX12_isKept 186 = .ok (.aload_n 0, 1) := by decide +kernel
theorem dX12_isKept_187 : decode cX12_isKept 187 = .ok (.getfield 147, 3) := by decide +kernel
theorem dX12_isKept_190 : decode cX12_isKept 190 = .ok (.ldc2_w 248, 3) := by decide +kernel
theorem dX12_isKept_193 : decode cX12_isKept 193 = .ok (.lcmp, 1) := by decide +kernel
theorem dX12_isKept_194 : decode cX12_isKept 194 = .ok (.ifCond .eq 47, 3) := by decide +kernel
theorem dX12_isKept_197 : decode cX12_isKept 197 = .ok (.aload_n 0, 1) := by decide +kernel
theorem dX12_isKept_198 : decode cX12_isKept 198 = .ok (.getfield 147, 3) := by decide +kernel
theorem dX12_isKept_201 : decode cX12_isKept 201 = .ok (.ldc2_w 250, 3) := by decide +kernel
theorem dX12_isKept_204 : decode cX12_isKept 204 = .ok (.lcmp, 1) := by decide +kernel
theorem dX12_isKept_205 : decode cX12_isKept 205 = .ok (.ifCond .eq 36, 3) := by decide +kernel
theorem dX12_isKept_208 : decode cX12_isKept 208 = .ok (.aload_n 0, 1) := by decide +kernel
theorem dX12_isKept_209 : decode cX12_isKept 209 = .ok (.getfield 147, 3) := by decide +kernel
theorem dX12_isKept_212 : decode cX12_isKept 212 = .ok (.ldc2_w 183, 3) := by decide +kernel
theorem dX12_isKept_215 : decode cX12_isKept 215 = .ok (.lcmp, 1) := by decide +kernel
theorem dX12_isKept_216 : decode cX12_isKept 216 = .ok (.ifCond .eq 25, 3) := by decide +kernel
theorem dX12_isKept_219 : decode cX12_isKept 219 = .ok (.aload_n 0, 1) := by decide +kernel
theorem dX12_isKept_220 : decode cX12_isKept 220 = .ok (.getfield 147, 3) := by decide +kernel
theorem dX12_isKept_223 : decode cX12_isKept 223 = .ok (.ldc2_w 203, 3) := by decide +kernel
theorem dX12_isKept_226 : decode cX12_isKept 226 = .ok (.lcmp, 1) := by decide +kernel
theorem dX12_isKept_227 : decode cX12_isKept 227 = .ok (.ifCond .eq 14, 3) := by decide +kernel
theorem dX12_isKept_230 : decode cX12_isKept 230 = .ok (.aload_n 0, 1) := by decide +kernel
theorem dX12_isKept_231 : decode cX12_isKept 231 = .ok (.getfield 147, 3) := by decide +kernel
theorem dX12_isKept_234 : decode cX12_isKept 234 = .ok (.ldc2_w 205, 3) := by decide +kernel
theorem dX12_isKept_237 : decode cX12_isKept 237 = .ok (.lcmp, 1) := by decide +kernel
theorem dX12_isKept_238 : decode cX12_isKept 238 = .ok (.ifCond .ne 7, 3) := by decide +kernel
theorem dX12_isKept_241 : decode cX12_isKept 241 = .ok (.iconst 1, 1) := by decide +kernel
theorem dX12_isKept_242 : decode cX12_isKept 242 = .ok (.goto 4, 3) := by decide +kernel
theorem dX12_isKept_245 : decode cX12_isKept 245 = .ok (.iconst 0, 1) := by decide +kernel
theorem dX12_isKept_246 : decode cX12_isKept 246 = .ok (.ireturn, 1) := by decide +kernel
theorem dX12_townNamed_0 : decode cX12_townNamed 0 = .ok (.bipush 6, 2) := by decide +kernel
theorem dX12_townNamed_2 : decode cX12_townNamed 2 = .ok (.iload_n 1, 1) := by decide +kernel
theorem dX12_townNamed_3 : decode cX12_townNamed 3 = .ok (.imul, 1) := by decide +kernel
theorem dX12_townNamed_4 : decode cX12_townNamed 4 = .ok (.istore_n 2, 1) := by decide +kernel
theorem dX12_townNamed_5 : decode cX12_townNamed 5 = .ok (.iload_n 2, 1) := by decide +kernel
theorem dX12_townNamed_6 : decode cX12_townNamed 6 = .ok (.bipush 6, 2) := by decide +kernel
theorem dX12_townNamed_8 : decode cX12_townNamed 8 = .ok (.iload_n 1, 1) := by decide +kernel
theorem dX12_townNamed_9 : decode cX12_townNamed 9 = .ok (.imul, 1) := by decide +kernel
theorem dX12_townNamed_10 : decode cX12_townNamed 10 = .ok (.aload_n 0, 1) := by decide +kernel
theorem dX12_townNamed_11 : decode cX12_townNamed 11 = .ok (.getfield 13, 3) := by decide +kernel
theorem dX12_townNamed_14 : decode cX12_townNamed 14 = .ok (.iconst 4, 1) := by decide +kernel
theorem dX12_townNamed_15 : decode cX12_townNamed 15 = .ok (.iload_n 1, 1) := by decide +kernel
theorem dX12_townNamed_16 : decode cX12_townNamed 16 = .ok (.imul, 1) := by decide +kernel
theorem dX12_townNamed_17 : decode cX12_townNamed 17 = .ok (.iconst 0, 1) := by decide +kernel
theorem dX12_townNamed_18 : decode cX12_townNamed 18 = .ok (.iadd, 1) := by decide +kernel
theorem dX12_townNamed_19 : decode cX12_townNamed 19 = .ok (.iaload, 1) := by decide +kernel
theorem dX12_townNamed_20 : decode cX12_townNamed 20 = .ok (.iadd, 1) := by decide +kernel
theorem dX12_townNamed_21 : decode cX12_townNamed 21 = .ok (.if_icmp .ge 30, 3) := by decide +kernel
theorem dX12_townNamed_24 : decode cX12_townNamed 24 = .ok (.aload_n 0, 1) := by decide +kernel
theorem dX12_townNamed_25 : decode cX12_townNamed 25 = .ok (.getfield 16, 3) := by decide +kernel
theorem dX12_townNamed_28 : decode cX12_townNamed 28 = .ok (.iload_n 2, 1) := by decide +kernel
theorem dX12_townNamed_29 : decode cX12_townNamed 29 = .ok (.laload, 1) := by decide +kernel
theorem dX12_townNamed_30 : decode cX12_townNamed 30 = .ok (.aload_n 0, 1) := by decide +kernel
theorem dX12_townNamed_31 : decode cX12_townNamed 31 = .ok (.getfield 147, 3) := by decide +kernel
theorem dX12_townNamed_34 : decode cX12_townNamed 34 = .ok (.lcmp, 1) := by decide +kernel
theorem dX12_townNamed_35 : decode cX12_townNamed 35 = .ok (.ifCond .ne 10, 3) := by decide +kernel
theorem dX12_townNamed_38 : decode cX12_townNamed 38 = .ok (.iload_n 2, 1) := by decide +kernel
theorem dX12_townNamed_39 : decode cX12_townNamed 39 = .ok (.bipush 6, 2) := by decide +kernel
theorem dX12_townNamed_41 : decode cX12_townNamed 41 = .ok (.iload_n 1, 1) := by decide +kernel
theorem dX12_townNamed_42 : decode cX12_townNamed 42 = .ok (.imul, 1) := by decide +kernel
theorem dX12_townNamed_43 : decode cX12_townNamed 43 = .ok (.isub, 1) := by decide +kernel
theorem dX12_townNamed_44 : decode cX12_townNamed 44 = .ok (.ireturn, 1) := by decide +kernel
theorem dX12_townNamed_45 : decode cX12_townNamed 45 = .ok (.iinc 2 1, 3) := by decide +kernel
theorem dX12_townNamed_48 : decode cX12_townNamed 48 = .ok (.goto (-43), 3) := by decide +kernel
theorem dX12_townNamed_51 : decode cX12_townNamed 51 = .ok (.iconst (-1), 1) := by decide +kernel
theorem dX12_townNamed_52 : decode cX12_townNamed 52 = .ok (.ireturn, 1) := by decide +kernel
theorem dX12_personNamed_0 : decode cX12_personNamed 0 = .ok (.bipush 6, 2) := by decide +kernel
theorem dX12_personNamed_2 : decode cX12_personNamed 2 = .ok (.iload_n 1, 1) := by decide +kernel
theorem dX12_personNamed_3 : decode cX12_personNamed 3 = .ok (.imul, 1) := by decide +kernel
theorem dX12_personNamed_4 : decode cX12_personNamed 4 = .ok (.istore_n 2, 1) := by decide +kernel
theorem dX12_personNamed_5 : decode cX12_personNamed 5 = .ok (.iload_n 2, 1) := by decide +kernel
theorem dX12_personNamed_6 : decode cX12_personNamed 6 = .ok (.bipush 6, 2) := by decide +kernel
theorem dX12_personNamed_8 : decode cX12_personNamed 8 = .ok (.iload_n 1, 1) := by decide +kernel
theorem dX12_personNamed_9 : decode cX12_personNamed 9 = .ok (.imul, 1) := by decide +kernel
theorem dX12_personNamed_10 : decode cX12_personNamed 10 = .ok (.aload_n 0, 1) := by decide +kernel
theorem dX12_personNamed_11 : decode cX12_personNamed 11 = .ok (.getfield 13, 3) := by decide +kernel
theorem dX12_personNamed_14 : decode cX12_personNamed 14 = .ok (.iconst 4, 1) := by decide +kernel
theorem dX12_personNamed_15 : decode cX12_personNamed 15 = .ok (.iload_n 1, 1) := by decide +kernel
theorem dX12_personNamed_16 : decode cX12_personNamed 16 = .ok (.imul, 1) := by decide +kernel
theorem dX12_personNamed_17 : decode cX12_personNamed 17 = .ok (.iconst 1, 1) := by decide +kernel
theorem dX12_personNamed_18 : decode cX12_personNamed 18 = .ok (.iadd, 1) := by decide +kernel
theorem dX12_personNamed_19 : decode cX12_personNamed 19 = .ok (.iaload, 1) := by decide +kernel
theorem dX12_personNamed_20 : decode cX12_personNamed 20 = .ok (.iadd, 1) := by decide +kernel
theorem dX12_personNamed_21 : decode cX12_personNamed 21 = .ok (.if_icmp .ge 30, 3) := by decide +kernel
theorem dX12_personNamed_24 : decode cX12_personNamed 24 = .ok (.aload_n 0, 1) := by decide +kernel
theorem dX12_personNamed_25 : decode cX12_personNamed 25 = .ok (.getfield 20, 3) := by decide +kernel
theorem dX12_personNamed_28 : decode cX12_personNamed 28 = .ok (.iload_n 2, 1) := by decide +kernel
theorem dX12_personNamed_29 : decode cX12_personNamed 29 = .ok (.laload, 1) := by decide +kernel
theorem dX12_personNamed_30 : decode cX12_personNamed 30 = .ok (.aload_n 0, 1) := by decide +kernel
theorem dX12_personNamed_31 : decode cX12_personNamed 31 = .ok (.getfield 147, 3) := by decide +kernel
theorem dX12_personNamed_34 : decode cX12_personNamed 34 = .ok (.lcmp, 1) := by decide +kernel
theorem dX12_personNamed_35 : decode cX12_personNamed 35 = .ok (.ifCond .ne 10, 3) := by decide +kernel
theorem dX12_personNamed_38 : decode cX12_personNamed 38 = .ok (.iload_n 2, 1) := by decide +kernel
theorem dX12_personNamed_39 : decode cX12_personNamed 39 = .ok (.bipush 6, 2) := by decide +kernel
theorem dX12_personNamed_41 : decode cX12_personNamed 41 = .ok (.iload_n 1, 1) := by decide +kernel
theorem dX12_personNamed_42 : decode cX12_personNamed 42 = .ok (.imul, 1) := by decide +kernel
theorem dX12_personNamed_43 : decode cX12_personNamed 43 = .ok (.isub, 1) := by decide +kernel
theorem dX12_personNamed_44 : decode cX12_personNamed 44 = .ok (.ireturn, 1) := by decide +kernel
theorem dX12_personNamed_45 : decode cX12_personNamed 45 = .ok (.iinc 2 1, 3) := by decide +kernel
theorem dX12_personNamed_48 : decode cX12_personNamed 48 = .ok (.goto (-43), 3) := by decide +kernel
theorem dX12_personNamed_51 : decode cX12_personNamed 51 = .ok (.iconst (-1), 1) := by decide +kernel
theorem dX12_personNamed_52 : decode cX12_personNamed 52 = .ok (.ireturn, 1) := by decide +kernel
theorem dX12_needsNumber_0 : decode cX12_needsNumber 0 = .ok (.aload_n 0, 1) := by decide +kernel
theorem dX12_needsNumber_1 : decode cX12_needsNumber 1 = .ok (.getfield 154, 3) := by decide +kernel
theorem dX12_needsNumber_4 : decode cX12_needsNumber 4 = .ok (.iconst 2, 1) := by decide +kernel
theorem dX12_needsNumber_5 : decode cX12_needsNumber 5 = .ok (.if_icmp .eq 9, 3) := by decide +kernel
theorem dX12_needsNumber_8 : decode cX12_needsNumber 8 = .ok (.aload_n 0, 1) := by decide +kernel
theorem dX12_needsNumber_9 : decode cX12_needsNumber 9 = .ok (.iconst 1, 1) := by decide +kernel
theorem dX12_needsNumber_10 : decode cX12_needsNumber 10 = .ok (.invokevirtual 193, 3) := by decide +kernel
theorem dX12_needsNumber_13 : decode cX12_needsNumber 13 = .ok (.ireturn, 1) := by decide +kernel
theorem dX12_needsNumber_14 : decode cX12_needsNumber 14 = .ok (.aload_n 0, 1) := by decide +kernel
theorem dX12_needsNumber_15 : decode cX12_needsNumber 15 = .ok (.getfield 151, 3) := by decide +kernel
theorem dX12_needsNumber_18 : decode cX12_needsNumber 18 = .ok (.iload_n 1, 1) := by decide +kernel
theorem dX12_needsNumber_19 : decode cX12_needsNumber 19 = .ok (.iload_n 2, 1) := by decide +kernel
theorem dX12_needsNumber_20 : decode cX12_needsNumber 20 = .ok (.invokestatic 252, 3) := by decide +kernel
theorem dX12_needsNumber_23 : decode cX12_needsNumber 23 = .ok (.ifCond .ne 9, 3) := by decide +kernel
theorem dX12_needsNumber_26 : decode cX12_needsNumber 26 = .ok (.aload_n 0, 1) := by decide +kernel
theorem dX12_needsNumber_27 : decode cX12_needsNumber 27 = .ok (.iconst 4, 1) := by decide +kernel
theorem dX12_needsNumber_28 : decode cX12_needsNumber 28 = .ok (.invokevirtual 193, 3) := by decide +kernel
theorem dX12_needsNumber_31 : decode cX12_needsNumber 31 = .ok (.ireturn, 1) := by decide +kernel
theorem dX12_needsNumber_32 : decode cX12_needsNumber 32 = .ok (.aload_n 0, 1) := by decide +kernel
theorem dX12_needsNumber_33 : decode cX12_needsNumber 33 = .ok (.aload_n 0, 1) := by decide +kernel
theorem dX12_needsNumber_34 : decode cX12_needsNumber 34 = .ok (.getfield 151, 3) := by decide +kernel
theorem dX12_needsNumber_37 : decode cX12_needsNumber 37 = .ok (.putfield 256, 3) := by decide +kernel
theorem dX12_needsNumber_40 : decode cX12_needsNumber 40 = .ok (.aload_n 0, 1) := by decide +kernel
theorem dX12_needsNumber_41 : decode cX12_needsNumber 41 = .ok (.invokevirtual 200, 3) := by decide +kernel
theorem dX12_needsNumber_44 : decode cX12_needsNumber 44 = .ok (.iconst 1, 1) := by decide +kernel
theorem dX12_needsNumber_45 : decode cX12_needsNumber 45 = .ok (.ireturn, 1) := by decide +kernel
theorem dX12_needsWord_0 : decode cX12_needsWord 0 = .ok (.aload_n 0, 1) := by decide +kernel
theorem dX12_needsWord_1 : decode cX12_needsWord 1 = .ok (.lload_n 1, 1) := by decide +kernel
theorem dX12_needsWord_2 : decode cX12_needsWord 2 = .ok (.invokevirtual 185, 3) := by decide +kernel
theorem dX12_needsWord_5 : decode cX12_needsWord 5 = .ok (.ifCond .ne 9, 3) := by decide +kernel
theorem dX12_needsWord_8 : decode cX12_needsWord 8 = .ok (.aload_n 0, 1) := by decide +kernel
theorem dX12_needsWord_9 : decode cX12_needsWord 9 = .ok (.iconst 1, 1) := by decide +kernel
theorem dX12_needsWord_10 : decode cX12_needsWord 10 = .ok (.invokevirtual 193, 3) := by decide +kernel
theorem dX12_needsWord_13 : decode cX12_needsWord 13 = .ok (.ireturn, 1) := by decide +kernel
theorem dX12_needsWord_14 : decode cX12_needsWord 14 = .ok (.aload_n 0, 1) := by decide +kernel
theorem dX12_needsWord_15 : decode cX12_needsWord 15 = .ok (.invokevirtual 200, 3) := by decide +kernel
theorem dX12_needsWord_18 : decode cX12_needsWord 18 = .ok (.iconst 1, 1) := by decide +kernel
theorem dX12_needsWord_19 : decode cX12_needsWord 19 = .ok (.ireturn, 1) := by decide +kernel
theorem dX12_needsBoth_0 : decode cX12_needsBoth 0 = .ok (.aload_n 0, 1) := by decide +kernel
theorem dX12_needsBoth_1 : decode cX12_needsBoth 1 = .ok (.lload_n 1, 1) := by decide +kernel
theorem dX12_needsBoth_2 : decode cX12_needsBoth 2 = .ok (.invokevirtual 259, 3) := by decide +kernel
theorem dX12_needsBoth_5 : decode cX12_needsBoth 5 = .ok (.ifCond .eq 17, 3) := by decide +kernel
theorem dX12_needsBoth_8 : decode cX12_needsBoth 8 = .ok (.aload_n 0, 1) := by decide +kernel
theorem dX12_needsBoth_9 : decode cX12_needsBoth 9 = .ok (.iload_n 3, 1) := by decide +kernel
theorem dX12_needsBoth_10 : decode cX12_needsBoth 10 = .ok (.iload 4, 2) := by decide +kernel
theorem dX12_needsBoth_12 : decode cX12_needsBoth 12 = .ok (.invokevirtual 262, 3) := by decide +kernel
theorem dX12_needsBoth_15 : decode cX12_needsBoth 15 = .ok (.ifCond .eq 7, 3) := by decide +kernel
theorem dX12_needsBoth_18 : decode cX12_needsBoth 18 = .ok (.iconst 1, 1) := by decide +kernel
theorem dX12_needsBoth_19 : decode cX12_needsBoth 19 = .ok (.goto 4, 3) := by decide +kernel
theorem dX12_needsBoth_22 : decode cX12_needsBoth 22 = .ok (.iconst 0, 1) := by decide +kernel
theorem dX12_needsBoth_23 : decode cX12_needsBoth 23 = .ok (.ireturn, 1) := by decide +kernel
theorem dX12_closes_0 : decode cX12_closes 0 = .ok (.aload_n 0, 1) := by decide +kernel
theorem dX12_closes_1 : decode cX12_closes 1 = .ok (.bipush 59, 2) := by decide +kernel
theorem dX12_closes_3 : decode cX12_closes 3 = .ok (.invokevirtual 189, 3) := by decide +kernel
theorem dX12_closes_6 : decode cX12_closes 6 = .ok (.ifCond .ne 9, 3) := by decide +kernel
theorem dX12_closes_9 : decode cX12_closes 9 = .ok (.aload_n 0, 1) := by decide +kernel
theorem dX12_closes_10 : decode cX12_closes 10 = .ok (.iconst 1, 1) := by decide +kernel
theorem dX12_closes_11 : decode cX12_closes 11 = .ok (.invokevirtual 193, 3) := by decide +kernel
theorem dX12_closes_14 : decode cX12_closes 14 = .ok (.ireturn, 1) := by decide +kernel
theorem dX12_closes_15 : decode cX12_closes 15 = .ok (.aload_n 0, 1) := by decide +kernel
theorem dX12_closes_16 : decode cX12_closes 16 = .ok (.invokevirtual 200, 3) := by decide +kernel
theorem dX12_closes_19 : decode cX12_closes 19 = .ok (.iconst 1, 1) := by decide +kernel
theorem dX12_closes_20 : decode cX12_closes 20 = .ok (.ireturn, 1) := by decide +kernel
theorem dX12_needsNew_0 : decode cX12_needsNew 0 = .ok (.aload_n 0, 1) := by decide +kernel
theorem dX12_needsNew_1 : decode cX12_needsNew 1 = .ok (.invokevirtual 266, 3) := by decide +kernel
theorem dX12_needsNew_4 : decode cX12_needsNew 4 = .ok (.ifCond .eq 9, 3) := by decide +kernel
theorem dX12_needsNew_7 : decode cX12_needsNew 7 = .ok (.aload_n 0, 1) := by decide +kernel
theorem dX12_needsNew_8 : decode cX12_needsNew 8 = .ok (.iconst 1, 1) := by decide +kernel
theorem dX12_needsNew_9 : decode cX12_needsNew 9 = .ok (.invokevirtual 193, 3) := by decide +kernel
theorem dX12_needsNew_12 : decode cX12_needsNew 12 = .ok (.ireturn, 1) := by decide +kernel
theorem dX12_needsNew_13 : decode cX12_needsNew 13 = .ok (.aload_n 0, 1) := by decide +kernel
theorem dX12_needsNew_14 : decode cX12_needsNew 14 = .ok (.iconst 1, 1) := by decide +kernel
theorem dX12_needsNew_15 : decode cX12_needsNew 15 = .ok (.invokevirtual 270, 3) := by decide +kernel
theorem dX12_needsNew_18 : decode cX12_needsNew 18 = .ok (.ifCond .ge 11, 3) := by decide +kernel
theorem dX12_needsNew_21 : decode cX12_needsNew 21 = .ok (.aload_n 0, 1) := by decide +kernel
theorem dX12_needsNew_22 : decode cX12_needsNew 22 = .ok (.iconst 1, 1) := by decide +kernel
theorem dX12_needsNew_23 : decode cX12_needsNew 23 = .ok (.invokevirtual 273, 3) := by decide +kernel
theorem dX12_needsNew_26 : decode cX12_needsNew 26 = .ok (.ifCond .lt 9, 3) := by decide +kernel
theorem dX12_needsNew_29 : decode cX12_needsNew 29 = .ok (.aload_n 0, 1) := by decide +kernel
theorem dX12_needsNew_30 : decode cX12_needsNew 30 = .ok (.iconst 3, 1) := by decide +kernel
theorem dX12_needsNew_31 : decode cX12_needsNew 31 = .ok (.invokevirtual 193, 3) := by decide +kernel
theorem dX12_needsNew_34 : decode cX12_needsNew 34 = .ok (.ireturn, 1) := by decide +kernel
theorem dX12_needsNew_35 : decode cX12_needsNew 35 = .ok (.aload_n 0, 1) := by decide +kernel
theorem dX12_needsNew_36 : decode cX12_needsNew 36 = .ok (.aload_n 0, 1) := by decide +kernel
theorem dX12_needsNew_37 : decode cX12_needsNew 37 = .ok (.getfield 147, 3) := by decide +kernel
theorem dX12_needsNew_40 : decode cX12_needsNew 40 = .ok (.putfield 276, 3) := by decide +kernel
theorem dX12_needsNew_43 : decode cX12_needsNew 43 = .ok (.aload_n 0, 1) := by decide +kernel
theorem dX12_needsNew_44 : decode cX12_needsNew 44 = .ok (.invokevirtual 200, 3) := by decide +kernel
theorem dX12_needsNew_47 : decode cX12_needsNew 47 = .ok (.iconst 1, 1) := by decide +kernel
theorem dX12_needsNew_48 : decode cX12_needsNew 48 = .ok (.ireturn, 1) := by decide +kernel
theorem dX12_needsTown_0 : decode cX12_needsTown 0 = .ok (.aload_n 0, 1) := by decide +kernel
theorem dX12_needsTown_1 : decode cX12_needsTown 1 = .ok (.invokevirtual 266, 3) := by decide +kernel
theorem dX12_needsTown_4 : decode cX12_needsTown 4 = .ok (.ifCond .eq 9, 3) := by decide +kernel
theorem dX12_needsTown_7 : decode cX12_needsTown 7 = .ok (.aload_n 0, 1) := by decide +kernel
theorem dX12_needsTown_8 : decode cX12_needsTown 8 = .ok (.iconst 1, 1) := by decide +kernel
theorem dX12_needsTown_9 : decode cX12_needsTown 9 = .ok (.invokevirtual 193, 3) := by decide +kernel
theorem dX12_needsTown_12 : decode cX12_needsTown 12 = .ok (.ireturn, 1) := by decide +kernel
theorem dX12_needsTown_13 : decode cX12_needsTown 13 = .ok (.aload_n 0, 1) := by decide +kernel
theorem dX12_needsTown_14 : decode cX12_needsTown 14 = .ok (.aload_n 0, 1) := by decide +kernel
theorem dX12_needsTown_15 : decode cX12_needsTown 15 = .ok (.iload_n 1, 1) := by decide +kernel
theorem dX12_needsTown_16 : decode cX12_needsTown 16 = .ok (.invokevirtual 270, 3) := by decide +kernel
theorem dX12_needsTown_19 : decode cX12_needsTown 19 = .ok (.putfield 256, 3) := by decide +kernel
theorem dX12_needsTown_22 : decode cX12_needsTown 22 = .ok (.aload_n 0, 1) := by decide +kernel
theorem dX12_needsTown_23 : decode cX12_needsTown 23 = .ok (.getfield 256, 3) := by decide +kernel
theorem dX12_needsTown_26 : decode cX12_needsTown 26 = .ok (.ifCond .ge 11, 3) := by decide +kernel
theorem dX12_needsTown_29 : decode cX12_needsTown 29 = .ok (.aload_n 0, 1) := by decide +kernel
theorem dX12_needsTown_30 : decode cX12_needsTown 30 = .ok (.iconst 2, 1) := by decide +kernel
theorem dX12_needsTown_31 : decode cX12_needsTown 31 = .ok (.invokevirtual 193, 3) := by decide +kernel
theorem dX12_needsTown_34 : decode cX12_needsTown 34 = .ok (.ifCond .eq 7, 3) := by decide +kernel
theorem dX12_needsTown_37 : decode cX12_needsTown 37 = .ok (.iconst 1, 1) := by decide +kernel
theorem dX12_needsTown_38 : decode cX12_needsTown 38 = .ok (.goto 4, 3) := by decide +kernel
theorem dX12_needsTown_41 : decode cX12_needsTown 41 = .ok (.iconst 0, 1) := by decide +kernel
theorem dX12_needsTown_42 : decode cX12_needsTown 42 = .ok (.ireturn, 1) := by decide +kernel
theorem dX12_needsPerson_0 : decode cX12_needsPerson 0 = .ok (.aload_n 0, 1) := by decide +kernel
theorem dX12_needsPerson_1 : decode cX12_needsPerson 1 = .ok (.invokevirtual 266, 3) := by decide +kernel
theorem dX12_needsPerson_4 : decode cX12_needsPerson 4 = .ok (.ifCond .eq 9, 3) := by decide +kernel
theorem dX12_needsPerson_7 : decode cX12_needsPerson 7 = .ok (.aload_n 0, 1) := by decide +kernel
theorem dX12_needsPerson_8 : decode cX12_needsPerson 8 = .ok (.iconst 1, 1) := by decide +kernel
theorem dX12_needsPerson_9 : decode cX12_needsPerson 9 = .ok (.invokevirtual 193, 3) := by decide +kernel
theorem dX12_needsPerson_12 : decode cX12_needsPerson 12 = .ok (.ireturn, 1) := by decide +kernel
theorem dX12_needsPerson_13 : decode cX12_needsPerson 13 = .ok (.aload_n 0, 1) := by decide +kernel
theorem dX12_needsPerson_14 : decode cX12_needsPerson 14 = .ok (.aload_n 0, 1) := by decide +kernel
theorem dX12_needsPerson_15 : decode cX12_needsPerson 15 = .ok (.iconst 0, 1) := by decide +kernel
theorem dX12_needsPerson_16 : decode cX12_needsPerson 16 = .ok (.invokevirtual 273, 3) := by decide +kernel
theorem dX12_needsPerson_19 : decode cX12_needsPerson 19 = .ok (.putfield 256, 3) := by decide +kernel
theorem dX12_needsPerson_22 : decode cX12_needsPerson 22 = .ok (.aload_n 0, 1) := by decide +kernel
theorem dX12_needsPerson_23 : decode cX12_needsPerson 23 = .ok (.getfield 256, 3) := by decide +kernel
theorem dX12_needsPerson_26 : decode cX12_needsPerson 26 = .ok (.ifCond .ge 11, 3) := by decide +kernel
theorem dX12_needsPerson_29 : decode cX12_needsPerson 29 = .ok (.aload_n 0, 1) := by decide +kernel
theorem dX12_needsPerson_30 : decode cX12_needsPerson 30 = .ok (.iconst 2, 1) := by decide +kernel
theorem dX12_needsPerson_31 : decode cX12_needsPerson 31 = .ok (.invokevirtual 193, 3) := by decide +kernel
theorem dX12_needsPerson_34 : decode cX12_needsPerson 34 = .ok (.ifCond .eq 7, 3) := by decide +kernel
theorem dX12_needsPerson_37 : decode cX12_needsPerson 37 = .ok (.iconst 1, 1) := by decide +kernel
theorem dX12_needsPerson_38 : decode cX12_needsPerson 38 = .ok (.goto 4, 3) := by decide +kernel
theorem dX12_needsPerson_41 : decode cX12_needsPerson 41 = .ok (.iconst 0, 1) := by decide +kernel
theorem dX12_needsPerson_42 : decode cX12_needsPerson 42 = .ok (.ireturn, 1) := by decide +kernel
theorem dX12_readsTown_0 : decode cX12_readsTown 0 = .ok (.bipush 6, 2) := by decide +kernel
theorem dX12_readsTown_2 : decode cX12_readsTown 2 = .ok (.aload_n 0, 1) := by decide +kernel
theorem dX12_readsTown_3 : decode cX12_readsTown 3 = .ok (.getfield 13, 3) := by decide +kernel
theorem dX12_readsTown_6 : decode cX12_readsTown 6 = .ok (.iconst 4, 1) := by decide +kernel
theorem dX12_readsTown_7 : decode cX12_readsTown 7 = .ok (.iaload, 1) := by decide +kernel
theorem dX12_readsTown_8 : decode cX12_readsTown 8 = .ok (.iadd, 1) := by decide +kernel
theorem dX12_readsTown_9 : decode cX12_readsTown 9 = .ok (.istore_n 1, 1) := by decide +kernel
theorem dX12_readsTown_10 : decode cX12_readsTown 10 = .ok (.iload_n 1, 1) := by decide +kernel
theorem dX12_readsTown_11 : decode cX12_readsTown 11 = .ok (.bipush 12, 2) := by decide +kernel
theorem dX12_readsTown_13 : decode cX12_readsTown 13 = .ok (.if_icmp .ne 9, 3) := by decide +kernel
theorem dX12_readsTown_16 : decode cX12_readsTown 16 = .ok (.aload_n 0, 1) := by decide +kernel
theorem dX12_readsTown_17 : decode cX12_readsTown 17 = .ok (.iconst 5, 1) := by decide +kernel
theorem dX12_readsTown_18 : decode cX12_readsTown 18 = .ok (.invokevirtual 193, 3) := by decide +kernel
theorem dX12_readsTown_21 : decode cX12_readsTown 21 = .ok (.ireturn, 1) := by decide +kernel
theorem dX12_readsTown_22 : decode cX12_readsTown 22 = .ok (.aload_n 0, 1) := by decide +kernel
theorem dX12_readsTown_23 : decode cX12_readsTown 23 = .ok (.invokevirtual 200, 3) := by decide +kernel
theorem dX12_readsTown_26 : decode cX12_readsTown 26 = .ok (.aload_n 0, 1) := by decide +kernel
theorem dX12_readsTown_27 : decode cX12_readsTown 27 = .ok (.invokevirtual 279, 3) := by decide +kernel
theorem dX12_readsTown_30 : decode cX12_readsTown 30 = .ok (.ifCond .eq 16, 3) := by decide +kernel
theorem dX12_readsTown_33 : decode cX12_readsTown 33 = .ok (.aload_n 0, 1) := by decide +kernel
theorem dX12_readsTown_34 : decode cX12_readsTown 34 = .ok (.ldc2_w 218, 3) := by decide +kernel
theorem dX12_readsTown_37 : decode cX12_readsTown 37 = .ok (.iconst 0, 1) := by decide +kernel
theorem dX12_readsTown_38 : decode cX12_readsTown 38 = .ok (.bipush 30, 2) := by decide +kernel
theorem dX12_readsTown_40 : decode cX12_readsTown 40 = .ok (.invokevirtual 282, 3) := by decide +kernel
theorem dX12_readsTown_43 : decode cX12_readsTown 43 = .ok (.ifCond .ne 5, 3) := by decide +kernel
theorem dX12_readsTown_46 : decode cX12_readsTown 46 = .ok (.iconst 0, 1) := by decide +kernel
theorem dX12_readsTown_47 : decode cX12_readsTown 47 = .ok (.ireturn, 1) := by decide +kernel
theorem dX12_readsTown_48 : decode cX12_readsTown 48 = .ok (.aload_n 0, 1) := by decide +kernel
theorem dX12_readsTown_49 : decode cX12_readsTown 49 = .ok (.getfield 23, 3) := by decide +kernel
theorem dX12_readsTown_52 : decode cX12_readsTown 52 = .ok (.iload_n 1, 1) := by decide +kernel
theorem dX12_readsTown_53 : decode cX12_readsTown 53 = .ok (.aload_n 0, 1) := by decide +kernel
theorem dX12_readsTown_54 : decode cX12_readsTown 54 = .ok (.getfield 256, 3) := by decide +kernel
theorem dX12_readsTown_57 : decode cX12_readsTown 57 = .ok (.iastore, 1) := by decide +kernel
theorem dX12_readsTown_58 : decode cX12_readsTown 58 = .ok (.aload_n 0, 1) := by decide +kernel
theorem dX12_readsTown_59 : decode cX12_readsTown 59 = .ok (.getfield 26, 3) := by decide +kernel
theorem dX12_readsTown_62 : decode cX12_readsTown 62 = .ok (.iload_n 1, 1) := by decide +kernel
theorem dX12_readsTown_63 : decode cX12_readsTown 63 = .ok (.iconst 0, 1) := by decide +kernel
theorem dX12_readsTown_64 : decode cX12_readsTown 64 = .ok (.iastore, 1) := by decide +kernel
theorem dX12_readsTown_65 : decode cX12_readsTown 65 = .ok (.aload_n 0, 1) := by decide +kernel
theorem dX12_readsTown_66 : decode cX12_readsTown 66 = .ok (.getfield 16, 3) := by decide +kernel
theorem dX12_readsTown_69 : decode cX12_readsTown 69 = .ok (.iload_n 1, 1) := by decide +kernel
theorem dX12_readsTown_70 : decode cX12_readsTown 70 = .ok (.aload_n 0, 1) := by decide +kernel
theorem dX12_readsTown_71 : decode cX12_readsTown 71 = .ok (.getfield 276, 3) := by decide +kernel
theorem dX12_readsTown_74 : decode cX12_readsTown 74 = .ok (.lastore, 1) := by decide +kernel
theorem dX12_readsTown_75 : decode cX12_readsTown 75 = .ok (.aload_n 0, 1) := by decide +kernel
theorem dX12_readsTown_76 : decode cX12_readsTown 76 = .ok (.getfield 13, 3) := by decide +kernel
theorem dX12_readsTown_79 : decode cX12_readsTown 79 = .ok (.iconst 4, 1) := by decide +kernel
theorem dX12_readsTown_80 : decode cX12_readsTown 80 = .ok (.dup2, 1) := by decide +kernel
theorem dX12_readsTown_81 : decode cX12_readsTown 81 = .ok (.iaload, 1) := by decide +kernel
theorem dX12_readsTown_82 : decode cX12_readsTown 82 = .ok (.iconst 1, 1) := by decide +kernel
theorem dX12_readsTown_83 : decode cX12_readsTown 83 = .ok (.iadd, 1) := by decide +kernel
theorem dX12_readsTown_84 : decode cX12_readsTown 84 = .ok (.iastore, 1) := by decide +kernel
theorem dX12_readsTown_85 : decode cX12_readsTown 85 = .ok (.aload_n 0, 1) := by decide +kernel
theorem dX12_readsTown_86 : decode cX12_readsTown 86 = .ok (.invokevirtual 286, 3) := by decide +kernel
theorem dX12_readsTown_89 : decode cX12_readsTown 89 = .ok (.ireturn, 1) := by decide +kernel
theorem dX12_readsRoad_0 : decode cX12_readsRoad 0 = .ok (.aload_n 0, 1) := by decide +kernel
theorem dX12_readsRoad_1 : decode cX12_readsRoad 1 = .ok (.invokevirtual 200, 3) := by decide +kernel
theorem dX12_readsRoad_4 : decode cX12_readsRoad 4 = .ok (.aload_n 0, 1) := by decide +kernel
theorem dX12_readsRoad_5 : decode cX12_readsRoad 5 = .ok (.iconst 1, 1) := by decide +kernel
theorem dX12_readsRoad_6 : decode cX12_readsRoad 6 = .ok (.invokevirtual 289, 3) := by decide +kernel
theorem dX12_readsRoad_9 : decode cX12_readsRoad 9 = .ok (.ifCond .ne 5, 3) := by decide +kernel
theorem dX12_readsRoad_12 : decode cX12_readsRoad 12 = .ok (.iconst 0, 1) := by decide +kernel
theorem dX12_readsRoad_13 : decode cX12_readsRoad 13 = .ok (.ireturn, 1) := by decide +kernel
theorem dX12_readsRoad_14 : decode cX12_readsRoad 14 = .ok (.aload_n 0, 1) := by decide +kernel
theorem dX12_readsRoad_15 : decode cX12_readsRoad 15 = .ok (.getfield 256, 3) := by decide +kernel
theorem dX12_readsRoad_18 : decode cX12_readsRoad 18 = .ok (.istore_n 1, 1) := by decide +kernel
theorem dX12_readsRoad_19 : decode cX12_readsRoad 19 = .ok (.aload_n 0, 1) := by decide +kernel
theorem dX12_readsRoad_20 : decode cX12_readsRoad 20 = .ok (.invokevirtual 200, 3) := by decide +kernel
theorem dX12_readsRoad_23 : decode cX12_readsRoad 23 = .ok (.aload_n 0, 1) := by decide +kernel
theorem dX12_readsRoad_24 : decode cX12_readsRoad 24 = .ok (.iconst 1, 1) := by decide +kernel
theorem dX12_readsRoad_25 : decode cX12_readsRoad 25 = .ok (.invokevirtual 289, 3) := by decide +kernel
theorem dX12_readsRoad_28 : decode cX12_readsRoad 28 = .ok (.ifCond .ne 5, 3) := by decide +kernel
theorem dX12_readsRoad_31 : decode cX12_readsRoad 31 = .ok (.iconst 0, 1) := by decide +kernel
theorem dX12_readsRoad_32 : decode cX12_readsRoad 32 = .ok (.ireturn, 1) := by decide +kernel
theorem dX12_readsRoad_33 : decode cX12_readsRoad 33 = .ok (.aload_n 0, 1) := by decide +kernel
theorem dX12_readsRoad_34 : decode cX12_readsRoad 34 = .ok (.getfield 256, 3) := by decide +kernel
theorem dX12_readsRoad_37 : decode cX12_readsRoad 37 = .ok (.iload_n 1, 1) := by decide +kernel
theorem dX12_readsRoad_38 : decode cX12_readsRoad 38 = .ok (.if_icmp .eq 23, 3) := by decide +kernel
theorem dX12_readsRoad_41 : decode cX12_readsRoad 41 = .ok (.aload_n 0, 1) := by decide +kernel
theorem dX12_readsRoad_42 : decode cX12_readsRoad 42 = .ok (.getfield 26, 3) := by decide +kernel
theorem dX12_readsRoad_45 : decode cX12_readsRoad 45 = .ok (.bipush 6, 2) := by decide +kernel
theorem dX12_readsRoad_47 : decode cX12_readsRoad 47 = .ok (.iload_n 1, 1) := by decide +kernel
theorem dX12_readsRoad_48 : decode cX12_readsRoad 48 = .ok (.iadd, 1) := by decide +kernel
theorem dX12_readsRoad_49 : decode cX12_readsRoad 49 = .ok (.iaload, 1) := by decide +kernel
theorem dX12_readsRoad_50 : decode cX12_readsRoad 50 = .ok (.aload_n 0, 1) := by decide +kernel
theorem dX12_readsRoad_51 : decode cX12_readsRoad 51 = .ok (.getfield 256, 3) := by decide +kernel
theorem dX12_readsRoad_54 : decode cX12_readsRoad 54 = .ok (.ishr, 1) := by decide +kernel
theorem dX12_readsRoad_55 : decode cX12_readsRoad 55 = .ok (.iconst 1, 1) := by decide +kernel
theorem dX12_readsRoad_56 : decode cX12_readsRoad 56 = .ok (.iand, 1) := by decide +kernel
theorem dX12_readsRoad_57 : decode cX12_readsRoad 57 = .ok (.iconst 1, 1) := by decide +kernel
theorem dX12_readsRoad_58 : decode cX12_readsRoad 58 = .ok (.if_icmp .ne 9, 3) := by decide +kernel
theorem dX12_readsRoad_61 : decode cX12_readsRoad 61 = .ok (.aload_n 0, 1) := by decide +kernel
theorem dX12_readsRoad_62 : decode cX12_readsRoad 62 = .ok (.iconst 3, 1) := by decide +kernel
theorem dX12_readsRoad_63 : decode cX12_readsRoad 63 = .ok (.invokevirtual 193, 3) := by decide +kernel
theorem dX12_readsRoad_66 : decode cX12_readsRoad 66 = .ok (.ireturn, 1) := by decide +kernel
theorem dX12_readsRoad_67 : decode cX12_readsRoad 67 = .ok (.aload_n 0, 1) := by decide +kernel
theorem dX12_readsRoad_68 : decode cX12_readsRoad 68 = .ok (.getfield 26, 3) := by decide +kernel
theorem dX12_readsRoad_71 : decode cX12_readsRoad 71 = .ok (.bipush 6, 2) := by decide +kernel
theorem dX12_readsRoad_73 : decode cX12_readsRoad 73 = .ok (.iload_n 1, 1) := by decide +kernel
theorem dX12_readsRoad_74 : decode cX12_readsRoad 74 = .ok (.iadd, 1) := by decide +kernel
theorem dX12_readsRoad_75 : decode cX12_readsRoad 75 = .ok (.dup2, 1) := by decide +kernel
theorem dX12_readsRoad_76 : decode cX12_readsRoad 76 = .ok (.iaload, 1) := by decide +kernel
theorem dX12_readsRoad_77 : decode cX12_readsRoad 77 = .ok (.iconst 1, 1) := by decide +kernel
theorem dX12_readsRoad_78 : decode cX12_readsRoad 78 = .ok (.aload_n 0, 1) := by decide +kernel
theorem dX12_readsRoad_79 : decode cX12_readsRoad 79 = .ok (.getfield 256, 3) := by decide +kernel
theorem dX12_readsRoad_82 : decode cX12_readsRoad 82 = .ok (.ishl, 1) := by decide +kernel
theorem dX12_readsRoad_83 : decode cX12_readsRoad 83 = .ok (.ior, 1) := by decide +kernel
theorem dX12_readsRoad_84 : decode cX12_readsRoad 84 = .ok (.iastore, 1) := by decide +kernel
theorem dX12_readsRoad_85 : decode cX12_readsRoad 85 = .ok (.aload_n 0, 1) := by decide +kernel
theorem dX12_readsRoad_86 : decode cX12_readsRoad 86 = .ok (.getfield 26, 3) := by decide +kernel
theorem dX12_readsRoad_89 : decode cX12_readsRoad 89 = .ok (.bipush 6, 2) := by decide +kernel
theorem dX12_readsRoad_91 : decode cX12_readsRoad 91 = .ok (.aload_n 0, 1) := by decide +kernel
theorem dX12_readsRoad_92 : decode cX12_readsRoad 92 = .ok (.getfield 256, 3) := by decide +kernel
theorem dX12_readsRoad_95 : decode cX12_readsRoad 95 = .ok (.iadd, 1) := by decide +kernel
theorem dX12_readsRoad_96 : decode cX12_readsRoad 96 = .ok (.dup2, 1) := by decide +kernel
theorem dX12_readsRoad_97 : decode cX12_readsRoad 97 = .ok (.iaload, 1) := by decide +kernel
theorem dX12_readsRoad_98 : decode cX12_readsRoad 98 = .ok (.iconst 1, 1) := by decide +kernel
theorem dX12_readsRoad_99 : decode cX12_readsRoad 99 = .ok (.iload_n 1, 1) := by decide +kernel
theorem dX12_readsRoad_100 : decode cX12_readsRoad 100 = .ok (.ishl, 1) := by decide +kernel
theorem dX12_readsRoad_101 : decode cX12_readsRoad 101 = .ok (.ior, 1) := by decide +kernel
theorem dX12_readsRoad_102 : decode cX12_readsRoad 102 = .ok (.iastore, 1) := by decide +kernel
theorem dX12_readsRoad_103 : decode cX12_readsRoad 103 = .ok (.aload_n 0, 1) := by decide +kernel
theorem dX12_readsRoad_104 : decode cX12_readsRoad 104 = .ok (.invokevirtual 200, 3) := by decide +kernel
theorem dX12_readsRoad_107 : decode cX12_readsRoad 107 = .ok (.aload_n 0, 1) := by decide +kernel
theorem dX12_readsRoad_108 : decode cX12_readsRoad 108 = .ok (.invokevirtual 286, 3) := by decide +kernel
theorem dX12_readsRoad_111 : decode cX12_readsRoad 111 = .ok (.ireturn, 1) := by decide +kernel
theorem dX12_readsPerson_0 : decode cX12_readsPerson 0 = .ok (.bipush 6, 2) := by decide +kernel
theorem dX12_readsPerson_2 : decode cX12_readsPerson 2 = .ok (.aload_n 0, 1) := by decide +kernel
theorem dX12_readsPerson_3 : decode cX12_readsPerson 3 = .ok (.getfield 13, 3) := by decide +kernel
theorem dX12_readsPerson_6 : decode cX12_readsPerson 6 = .ok (.iconst 5, 1) := by decide +kernel
theorem dX12_readsPerson_7 : decode cX12_readsPerson 7 = .ok (.iaload, 1) := by decide +kernel
theorem dX12_readsPerson_8 : decode cX12_readsPerson 8 = .ok (.iadd, 1) := by decide +kernel
theorem dX12_readsPerson_9 : decode cX12_readsPerson 9 = .ok (.istore_n 1, 1) := by decide +kernel
theorem dX12_readsPerson_10 : decode cX12_readsPerson 10 = .ok (.iload_n 1, 1) := by decide +kernel
theorem dX12_readsPerson_11 : decode cX12_readsPerson 11 = .ok (.bipush 12, 2) := by decide +kernel
theorem dX12_readsPerson_13 : decode cX12_readsPerson 13 = .ok (.if_icmp .ne 9, 3) := by decide +kernel
theorem dX12_readsPerson_16 : decode cX12_readsPerson 16 = .ok (.aload_n 0, 1) := by decide +kernel
theorem dX12_readsPerson_17 : decode cX12_readsPerson 17 = .ok (.iconst 5, 1) := by decide +kernel
theorem dX12_readsPerson_18 : decode cX12_readsPerson 18 = .ok (.invokevirtual 193, 3) := by decide +kernel
theorem dX12_readsPerson_21 : decode cX12_readsPerson 21 = .ok (.ireturn, 1) := by decide +kernel
theorem dX12_readsPerson_22 : decode cX12_readsPerson 22 = .ok (.aload_n 0, 1) := by decide +kernel
theorem dX12_readsPerson_23 : decode cX12_readsPerson 23 = .ok (.invokevirtual 200, 3) := by decide +kernel
theorem dX12_readsPerson_26 : decode cX12_readsPerson 26 = .ok (.aload_n 0, 1) := by decide +kernel
theorem dX12_readsPerson_27 : decode cX12_readsPerson 27 = .ok (.invokevirtual 279, 3) := by decide +kernel
theorem dX12_readsPerson_30 : decode cX12_readsPerson 30 = .ok (.ifCond .ne 5, 3) := by decide +kernel
theorem dX12_readsPerson_33 : decode cX12_readsPerson 33 = .ok (.iconst 0, 1) := by decide +kernel
theorem dX12_readsPerson_34 : decode cX12_readsPerson 34 = .ok (.ireturn, 1) := by decide +kernel
theorem dX12_readsPerson_35 : decode cX12_readsPerson 35 = .ok (.aload_n 0, 1) := by decide +kernel
theorem dX12_readsPerson_36 : decode cX12_readsPerson 36 = .ok (.getfield 276, 3) := by decide +kernel
theorem dX12_readsPerson_39 : decode cX12_readsPerson 39 = .ok (.lstore_n 2, 1) := by decide +kernel
theorem dX12_readsPerson_40 : decode cX12_readsPerson 40 = .ok (.aload_n 0, 1) := by decide +kernel
theorem dX12_readsPerson_41 : decode cX12_readsPerson 41 = .ok (.getfield 29, 3) := by decide +kernel
theorem dX12_readsPerson_44 : decode cX12_readsPerson 44 = .ok (.iload_n 1, 1) := by decide +kernel
theorem dX12_readsPerson_45 : decode cX12_readsPerson 45 = .ok (.aload_n 0, 1) := by decide +kernel
theorem dX12_readsPerson_46 : decode cX12_readsPerson 46 = .ok (.ldc2_w 244, 3) := by decide +kernel
theorem dX12_readsPerson_49 : decode cX12_readsPerson 49 = .ok (.invokevirtual 185, 3) := by decide +kernel
theorem dX12_readsPerson_52 : decode cX12_readsPerson 52 = .ok (.ifCond .eq 7, 3) := by decide +kernel
theorem dX12_readsPerson_55 : decode cX12_readsPerson 55 = .ok (.iconst 0, 1) := by decide +kernel
theorem dX12_readsPerson_56 : decode cX12_readsPerson 56 = .ok (.goto 46, 3) := by decide +kernel
theorem dX12_readsPerson_59 : decode cX12_readsPerson 59 = .ok (.aload_n 0, 1) := by decide +kernel
theorem dX12_readsPerson_60 : decode cX12_readsPerson 60 = .ok (.ldc2_w 246, 3) := by decide +kernel
theorem dX12_readsPerson_63 : decode cX12_readsPerson 63 = .ok (.invokevirtual 185, 3) := by decide +kernel
theorem dX12_readsPerson_66 : decode cX12_readsPerson 66 = .ok (.ifCond .eq 7, 3) := by decide +kernel
theorem dX12_readsPerson_69 : decode cX12_readsPerson 69 = .ok (.iconst 1, 1) := by decide +kernel
theorem dX12_readsPerson_70 : decode cX12_readsPerson 70 = .ok (.goto 32, 3) := by decide +kernel
theorem dX12_readsPerson_73 : decode cX12_readsPerson 73 = .ok (.aload_n 0, 1) := by decide +kernel
theorem dX12_readsPerson_74 : decode cX12_readsPerson 74 = .ok (.ldc2_w 248, 3) := by decide +kernel
theorem dX12_readsPerson_77 : decode cX12_readsPerson 77 = .ok (.invokevirtual 185, 3) := by decide +kernel
theorem dX12_readsPerson_80 : decode cX12_readsPerson 80 = .ok (.ifCond .eq 7, 3) := by decide +kernel
theorem dX12_readsPerson_83 : decode cX12_readsPerson 83 = .ok (.iconst 2, 1) := by decide +kernel
theorem dX12_readsPerson_84 : decode cX12_readsPerson 84 = .ok (.goto 18, 3) := by decide +kernel
theorem dX12_readsPerson_87 : decode cX12_readsPerson 87 = .ok (.aload_n 0, 1) := by decide +kernel
theorem dX12_readsPerson_88 : decode cX12_readsPerson 88 = .ok (.ldc2_w 250, 3) := by decide +kernel
theorem dX12_readsPerson_91 : decode cX12_readsPerson 91 = .ok (.invokevirtual 185, 3) := by decide +kernel
theorem dX12_readsPerson_94 : decode cX12_readsPerson 94 = .ok (.ifCond .eq 7, 3) := by decide +kernel
theorem dX12_readsPerson_97 : decode cX12_readsPerson 97 = .ok (.iconst 3, 1) := by decide +kernel
theorem dX12_readsPerson_98 : decode cX12_readsPerson 98 = .ok (.goto 4, 3) := by decide +kernel
theorem dX12_readsPerson_101 : decode cX12_readsPerson 101 = .ok (.iconst (-1), 1) := by decide +kernel
theorem dX12_readsPerson_102 : decode cX12_readsPerson 102 = .ok (.iastore, 1) := by decide +kernel
theorem dX12_readsPerson_103 : decode cX12_readsPerson 103 = .ok (.aload_n 0, 1) := by decide +kernel
theorem dX12_readsPerson_104 : decode cX12_readsPerson 104 = .ok (.getfield 29, 3) := by decide +kernel
theorem dX12_readsPerson_107 : decode cX12_readsPerson 107 = .ok (.iload_n 1, 1) := by decide +kernel
theorem dX12_readsPerson_108 : decode cX12_readsPerson 108 = .ok (.iaload, 1) := by decide +kernel
theorem dX12_readsPerson_109 : decode cX12_readsPerson 109 = .ok (.ifCond .ge 9, 3) := by decide +kernel
theorem dX12_readsPerson_112 : decode cX12_readsPerson 112 = .ok (.aload_n 0, 1) := by decide +kernel
theorem dX12_readsPerson_113 : decode cX12_readsPerson 113 = .ok (.iconst 1, 1) := by decide +kernel
theorem dX12_readsPerson_114 : decode cX12_readsPerson 114 = .ok (.invokevirtual 193, 3) := by decide +kernel
theorem dX12_readsPerson_117 : decode cX12_readsPerson 117 = .ok (.ireturn, 1) := by decide +kernel
theorem dX12_readsPerson_118 : decode cX12_readsPerson 118 = .ok (.aload_n 0, 1) := by decide +kernel
theorem dX12_readsPerson_119 : decode cX12_readsPerson 119 = .ok (.invokevirtual 200, 3) := by decide +kernel
theorem dX12_readsPerson_122 : decode cX12_readsPerson 122 = .ok (.aload_n 0, 1) := by decide +kernel
theorem dX12_readsPerson_123 : decode cX12_readsPerson 123 = .ok (.ldc2_w 224, 3) := by decide +kernel
theorem dX12_readsPerson_126 : decode cX12_readsPerson 126 = .ok (.invokevirtual 259, 3) := by decide +kernel
theorem dX12_readsPerson_129 : decode cX12_readsPerson 129 = .ok (.ifCond .eq 11, 3) := by decide +kernel
theorem dX12_readsPerson_132 : decode cX12_readsPerson 132 = .ok (.aload_n 0, 1) := by decide +kernel
theorem dX12_readsPerson_133 : decode cX12_readsPerson 133 = .ok (.iconst 1, 1) := by decide +kernel
theorem dX12_readsPerson_134 : decode cX12_readsPerson 134 = .ok (.invokevirtual 289, 3) := by decide +kernel
theorem dX12_readsPerson_137 : decode cX12_readsPerson 137 = .ok (.ifCond .ne 5, 3) := by decide +kernel
theorem dX12_readsPerson_140 : decode cX12_readsPerson 140 = .ok (.iconst 0, 1) := by decide +kernel
theorem dX12_readsPerson_141 : decode cX12_readsPerson 141 = .ok (.ireturn, 1) := by decide +kernel
theorem dX12_readsPerson_142 : decode cX12_readsPerson 142 = .ok (.aload_n 0, 1) := by decide +kernel
theorem dX12_readsPerson_143 : decode cX12_readsPerson 143 = .ok (.getfield 32, 3) := by decide +kernel
theorem dX12_readsPerson_146 : decode cX12_readsPerson 146 = .ok (.iload_n 1, 1) := by decide +kernel
theorem dX12_readsPerson_147 : decode cX12_readsPerson 147 = .ok (.aload_n 0, 1) := by decide +kernel
theorem dX12_readsPerson_148 : decode cX12_readsPerson 148 = .ok (.getfield 256, 3) := by decide +kernel
theorem dX12_readsPerson_151 : decode cX12_readsPerson 151 = .ok (.iastore, 1) := by decide +kernel
theorem dX12_readsPerson_152 : decode cX12_readsPerson 152 = .ok (.aload_n 0, 1) := by decide +kernel
theorem dX12_readsPerson_153 : decode cX12_readsPerson 153 = .ok (.invokevirtual 200, 3) := by decide +kernel
theorem dX12_readsPerson_156 : decode cX12_readsPerson 156 = .ok (.aload_n 0, 1) := by decide +kernel
theorem dX12_readsPerson_157 : decode cX12_readsPerson 157 = .ok (.ldc2_w 226, 3) := by decide +kernel
theorem dX12_readsPerson_160 : decode cX12_readsPerson 160 = .ok (.iconst 0, 1) := by decide +kernel
theorem dX12_readsPerson_161 : decode cX12_readsPerson 161 = .ok (.bipush 30, 2) := by decide +kernel
theorem dX12_readsPerson_163 : decode cX12_readsPerson 163 = .ok (.invokevirtual 282, 3) := by decide +kernel
theorem dX12_readsPerson_166 : decode cX12_readsPerson 166 = .ok (.ifCond .ne 5, 3) := by decide +kernel
theorem dX12_readsPerson_169 : decode cX12_readsPerson 169 = .ok (.iconst 0, 1) := by decide +kernel
theorem dX12_readsPerson_170 : decode cX12_readsPerson 170 = .ok (.ireturn, 1) := by decide +kernel
theorem dX12_readsPerson_171 : decode cX12_readsPerson 171 = .ok (.aload_n 0, 1) := by decide +kernel
theorem dX12_readsPerson_172 : decode cX12_readsPerson 172 = .ok (.getfield 35, 3) := by decide +kernel
theorem dX12_readsPerson_175 : decode cX12_readsPerson 175 = .ok (.iload_n 1, 1) := by decide +kernel
theorem dX12_readsPerson_176 : decode cX12_readsPerson 176 = .ok (.aload_n 0, 1) := by decide +kernel
theorem dX12_readsPerson_177 : decode cX12_readsPerson 177 = .ok (.getfield 256, 3) := by decide +kernel
theorem dX12_readsPerson_180 : decode cX12_readsPerson 180 = .ok (.iastore, 1) := by decide +kernel
theorem dX12_readsPerson_181 : decode cX12_readsPerson 181 = .ok (.aload_n 0, 1) := by decide +kernel
theorem dX12_readsPerson_182 : decode cX12_readsPerson 182 = .ok (.ldc2_w 228, 3) := by decide +kernel
theorem dX12_readsPerson_185 : decode cX12_readsPerson 185 = .ok (.iconst 0, 1) := by decide +kernel
theorem dX12_readsPerson_186 : decode cX12_readsPerson 186 = .ok (.bipush 99, 2) := by decide +kernel
theorem dX12_readsPerson_188 : decode cX12_readsPerson 188 = .ok (.invokevirtual 282, 3) := by decide +kernel
theorem dX12_readsPerson_191 : decode cX12_readsPerson 191 = .ok (.ifCond .ne 5, 3) := by decide +kernel
theorem dX12_readsPerson_194 : decode cX12_readsPerson 194 = .ok (.iconst 0, 1) := by decide +kernel
theorem dX12_readsPerson_195 : decode cX12_readsPerson 195 = .ok (.ireturn, 1) := by decide +kernel
theorem dX12_readsPerson_196 : decode cX12_readsPerson 196 = .ok (.aload_n 0, 1) := by decide +kernel
theorem dX12_readsPerson_197 : decode cX12_readsPerson 197 = .ok (.getfield 38, 3) := by decide +kernel
theorem dX12_readsPerson_200 : decode cX12_readsPerson 200 = .ok (.iload_n 1, 1) := by decide +kernel
theorem dX12_readsPerson_201 : decode cX12_readsPerson 201 = .ok (.aload_n 0, 1) := by decide +kernel
theorem dX12_readsPerson_202 : decode cX12_readsPerson 202 = .ok (.getfield 256, 3) := by decide +kernel
theorem dX12_readsPerson_205 : decode cX12_readsPerson 205 = .ok (.iastore, 1) := by decide +kernel
theorem dX12_readsPerson_206 : decode cX12_readsPerson 206 = .ok (.aload_n 0, 1) := by decide +kernel
theorem dX12_readsPerson_207 : decode cX12_readsPerson 207 = .ok (.getfield 20, 3) := by decide +kernel
theorem dX12_readsPerson_210 : decode cX12_readsPerson 210 = .ok (.iload_n 1, 1) := by decide +kernel
theorem dX12_readsPerson_211 : decode cX12_readsPerson 211 = .ok (.lload_n 2, 1) := by decide +kernel
theorem dX12_readsPerson_212 : decode cX12_readsPerson 212 = .ok (.lastore, 1) := by decide +kernel
theorem dX12_readsPerson_213 : decode cX12_readsPerson 213 = .ok (.aload_n 0, 1) := by decide +kernel
theorem dX12_readsPerson_214 : decode cX12_readsPerson 214 = .ok (.getfield 13, 3) := by decide +kernel
theorem dX12_readsPerson_217 : decode cX12_readsPerson 217 = .ok (.iconst 5, 1) := by decide +kernel
theorem dX12_readsPerson_218 : decode cX12_readsPerson 218 = .ok (.dup2, 1) := by decide +kernel
theorem dX12_readsPerson_219 : decode cX12_readsPerson 219 = .ok (.iaload, 1) := by decide +kernel
theorem dX12_readsPerson_220 : decode cX12_readsPerson 220 = .ok (.iconst 1, 1) := by decide +kernel
theorem dX12_readsPerson_221 : decode cX12_readsPerson 221 = .ok (.iadd, 1) := by decide +kernel
theorem dX12_readsPerson_222 : decode cX12_readsPerson 222 = .ok (.iastore, 1) := by decide +kernel
theorem dX12_readsPerson_223 : decode cX12_readsPerson 223 = .ok (.aload_n 0, 1) := by decide +kernel
theorem dX12_readsPerson_224 : decode cX12_readsPerson 224 = .ok (.invokevirtual 286, 3) := by decide +kernel
theorem dX12_readsPerson_227 : decode cX12_readsPerson 227 = .ok (.ireturn, 1) := by decide +kernel
theorem dX12_readsOne_0 : decode cX12_readsOne 0 = .ok (.aload_n 0, 1) := by decide +kernel
theorem dX12_readsOne_1 : decode cX12_readsOne 1 = .ok (.getfield 292, 3) := by decide +kernel
theorem dX12_readsOne_4 : decode cX12_readsOne 4 = .ok (.iload_n 1, 1) := by decide +kernel
theorem dX12_readsOne_5 : decode cX12_readsOne 5 = .ok (.ishr, 1) := by decide +kernel
theorem dX12_readsOne_6 : decode cX12_readsOne 6 = .ok (.iconst 1, 1) := by decide +kernel
theorem dX12_readsOne_7 : decode cX12_readsOne 7 = .ok (.iand, 1) := by decide +kernel
theorem dX12_readsOne_8 : decode cX12_readsOne 8 = .ok (.iconst 1, 1) := by decide +kernel
theorem dX12_readsOne_9 : decode cX12_readsOne 9 = .ok (.if_icmp .ne 9, 3) := by decide +kernel
theorem dX12_readsOne_12 : decode cX12_readsOne 12 = .ok (.aload_n 0, 1) := by decide +kernel
theorem dX12_readsOne_13 : decode cX12_readsOne 13 = .ok (.iconst 3, 1) := by decide +kernel
theorem dX12_readsOne_14 : decode cX12_readsOne 14 = .ok (.invokevirtual 193, 3) := by decide +kernel
theorem dX12_readsOne_17 : decode cX12_readsOne 17 = .ok (.ireturn, 1) := by decide +kernel
theorem dX12_readsOne_18 : decode cX12_readsOne 18 = .ok (.aload_n 0, 1) := by decide +kernel
theorem dX12_readsOne_19 : decode cX12_readsOne 19 = .ok (.dup, 1) := by decide +kernel
theorem dX12_readsOne_20 : decode cX12_readsOne 20 = .ok (.getfield 292, 3) := by decide +kernel
theorem dX12_readsOne_23 : decode cX12_readsOne 23 = .ok (.iconst 1, 1) := by decide +kernel
theorem dX12_readsOne_24 : decode cX12_readsOne 24 = .ok (.iload_n 1, 1) := by decide +kernel
theorem dX12_readsOne_25 : decode cX12_readsOne 25 = .ok (.ishl, 1) := by decide +kernel
theorem dX12_readsOne_26 : decode cX12_readsOne 26 = .ok (.ior, 1) := by decide +kernel
theorem dX12_readsOne_27 : decode cX12_readsOne 27 = .ok (.putfield 292, 3) := by decide +kernel
theorem dX12_readsOne_30 : decode cX12_readsOne 30 = .ok (.aload_n 0, 1) := by decide +kernel
theorem dX12_readsOne_31 : decode cX12_readsOne 31 = .ok (.invokevirtual 200, 3) := by decide +kernel
theorem dX12_readsOne_34 : decode cX12_readsOne 34 = .ok (.aload_n 0, 1) := by decide +kernel
theorem dX12_readsOne_35 : decode cX12_readsOne 35 = .ok (.iload_n 2, 1) := by decide +kernel
theorem dX12_readsOne_36 : decode cX12_readsOne 36 = .ok (.iload_n 3, 1) := by decide +kernel
theorem dX12_readsOne_37 : decode cX12_readsOne 37 = .ok (.invokevirtual 262, 3) := by decide +kernel
theorem dX12_readsOne_40 : decode cX12_readsOne 40 = .ok (.ifCond .ne 5, 3) := by decide +kernel
theorem dX12_readsOne_43 : decode cX12_readsOne 43 = .ok (.iconst 0, 1) := by decide +kernel
theorem dX12_readsOne_44 : decode cX12_readsOne 44 = .ok (.ireturn, 1) := by decide +kernel
theorem dX12_readsOne_45 : decode cX12_readsOne 45 = .ok (.aload_n 0, 1) := by decide +kernel
theorem dX12_readsOne_46 : decode cX12_readsOne 46 = .ok (.getfield 13, 3) := by decide +kernel
theorem dX12_readsOne_49 : decode cX12_readsOne 49 = .ok (.iconst 4, 1) := by decide +kernel
theorem dX12_readsOne_50 : decode cX12_readsOne 50 = .ok (.iload_n 1, 1) := by decide +kernel
theorem dX12_readsOne_51 : decode cX12_readsOne 51 = .ok (.iadd, 1) := by decide +kernel
theorem dX12_readsOne_52 : decode cX12_readsOne 52 = .ok (.aload_n 0, 1) := by decide +kernel
theorem dX12_readsOne_53 : decode cX12_readsOne 53 = .ok (.getfield 256, 3) := by decide +kernel
theorem dX12_readsOne_56 : decode cX12_readsOne 56 = .ok (.iastore, 1) := by decide +kernel
theorem dX12_readsOne_57 : decode cX12_readsOne 57 = .ok (.aload_n 0, 1) := by decide +kernel
theorem dX12_readsOne_58 : decode cX12_readsOne 58 = .ok (.invokevirtual 286, 3) := by decide +kernel
theorem dX12_readsOne_61 : decode cX12_readsOne 61 = .ok (.ireturn, 1) := by decide +kernel
theorem dX12_readsReads_0 : decode cX12_readsReads 0 = .ok (.aload_n 0, 1) := by decide +kernel
theorem dX12_readsReads_1 : decode cX12_readsReads 1 = .ok (.getfield 44, 3) := by decide +kernel
theorem dX12_readsReads_4 : decode cX12_readsReads 4 = .ok (.iconst 1, 1) := by decide +kernel
theorem dX12_readsReads_5 : decode cX12_readsReads 5 = .ok (.iaload, 1) := by decide +kernel
theorem dX12_readsReads_6 : decode cX12_readsReads 6 = .ok (.aload_n 0, 1) := by decide +kernel
theorem dX12_readsReads_7 : decode cX12_readsReads 7 = .ok (.getfield 41, 3) := by decide +kernel
theorem dX12_readsReads_10 : decode cX12_readsReads 10 = .ok (.iconst 1, 1) := by decide +kernel
theorem dX12_readsReads_11 : decode cX12_readsReads 11 = .ok (.iaload, 1) := by decide +kernel
theorem dX12_readsReads_12 : decode cX12_readsReads 12 = .ok (.if_icmp .le 9, 3) := by decide +kernel
theorem dX12_readsReads_15 : decode cX12_readsReads 15 = .ok (.aload_n 0, 1) := by decide +kernel
theorem dX12_readsReads_16 : decode cX12_readsReads 16 = .ok (.iconst 3, 1) := by decide +kernel
theorem dX12_readsReads_17 : decode cX12_readsReads 17 = .ok (.invokevirtual 193, 3) := by decide +kernel
theorem dX12_readsReads_20 : decode cX12_readsReads 20 = .ok (.ireturn, 1) := by decide +kernel
theorem dX12_readsReads_21 : decode cX12_readsReads 21 = .ok (.aload_n 0, 1) := by decide +kernel
theorem dX12_readsReads_22 : decode cX12_readsReads 22 = .ok (.invokevirtual 200, 3) := by decide +kernel
theorem dX12_readsReads_25 : decode cX12_readsReads 25 = .ok (.aload_n 0, 1) := by decide +kernel
theorem dX12_readsReads_26 : decode cX12_readsReads 26 = .ok (.getfield 41, 3) := by decide +kernel
theorem dX12_readsReads_29 : decode cX12_readsReads 29 = .ok (.iconst 1, 1) := by decide +kernel
theorem dX12_readsReads_30 : decode cX12_readsReads 30 = .ok (.aload_n 0, 1) := by decide +kernel
theorem dX12_readsReads_31 : decode cX12_readsReads 31 = .ok (.getfield 168, 3) := by decide +kernel
theorem dX12_readsReads_34 : decode cX12_readsReads 34 = .ok (.iastore, 1) := by decide +kernel
theorem dX12_readsReads_35 : decode cX12_readsReads 35 = .ok (.aload_n 0, 1) := by decide +kernel
theorem dX12_readsReads_36 : decode cX12_readsReads 36 = .ok (.invokevirtual 295, 3) := by decide +kernel
theorem dX12_readsReads_39 : decode cX12_readsReads 39 = .ok (.ifCond .ne 5, 3) := by decide +kernel
theorem dX12_readsReads_42 : decode cX12_readsReads 42 = .ok (.iconst 0, 1) := by decide +kernel
theorem dX12_readsReads_43 : decode cX12_readsReads 43 = .ok (.ireturn, 1) := by decide +kernel
theorem dX12_readsReads_44 : decode cX12_readsReads 44 = .ok (.aload_n 0, 1) := by decide +kernel
theorem dX12_readsReads_45 : decode cX12_readsReads 45 = .ok (.getfield 44, 3) := by decide +kernel
theorem dX12_readsReads_48 : decode cX12_readsReads 48 = .ok (.iconst 1, 1) := by decide +kernel
theorem dX12_readsReads_49 : decode cX12_readsReads 49 = .ok (.aload_n 0, 1) := by decide +kernel
theorem dX12_readsReads_50 : decode cX12_readsReads 50 = .ok (.getfield 168, 3) := by decide +kernel
theorem dX12_readsReads_53 : decode cX12_readsReads 53 = .ok (.iastore, 1) := by decide +kernel
theorem dX12_readsReads_54 : decode cX12_readsReads 54 = .ok (.iconst 1, 1) := by decide +kernel
theorem dX12_readsReads_55 : decode cX12_readsReads 55 = .ok (.ireturn, 1) := by decide +kernel
theorem dX12_begins_0 : decode cX12_begins 0 = .ok (.aload_n 0, 1) := by decide +kernel
theorem dX12_begins_1 : decode cX12_begins 1 = .ok (.aload_n 0, 1) := by decide +kernel
theorem dX12_begins_2 : decode cX12_begins 2 = .ok (.getfield 135, 3) := by decide +kernel
theorem dX12_begins_5 : decode cX12_begins 5 = .ok (.putfield 138, 3) := by decide +kernel
theorem dX12_begins_8 : decode cX12_begins 8 = .ok (.aload_n 0, 1) := by decide +kernel
theorem dX12_begins_9 : decode cX12_begins 9 = .ok (.iconst 0, 1) := by decide +kernel
theorem dX12_begins_10 : decode cX12_begins 10 = .ok (.putfield 135, 3) := by decide +kernel
theorem dX12_begins_13 : decode cX12_begins 13 = .ok (.aload_n 0, 1) := by decide +kernel
theorem dX12_begins_14 : decode cX12_begins 14 = .ok (.iconst 0, 1) := by decide +kernel
theorem dX12_begins_15 : decode cX12_begins 15 = .ok (.putfield 141, 3) := by decide +kernel
theorem dX12_begins_18 : decode cX12_begins 18 = .ok (.aload_n 0, 1) := by decide +kernel
theorem dX12_begins_19 : decode cX12_begins 19 = .ok (.invokevirtual 200, 3) := by decide +kernel
theorem dX12_begins_22 : decode cX12_begins 22 = .ok (.return_, 1) := by decide +kernel
theorem dX12_readsAll_0 : decode cX12_readsAll 0 = .ok (.aload_n 0, 1) := by decide +kernel
theorem dX12_readsAll_1 : decode cX12_readsAll 1 = .ok (.getfield 13, 3) := by decide +kernel
theorem dX12_readsAll_4 : decode cX12_readsAll 4 = .ok (.iconst 4, 1) := by decide +kernel
theorem dX12_readsAll_5 : decode cX12_readsAll 5 = .ok (.iconst 0, 1) := by decide +kernel
theorem dX12_readsAll_6 : decode cX12_readsAll 6 = .ok (.iastore, 1) := by decide +kernel
theorem dX12_readsAll_7 : decode cX12_readsAll 7 = .ok (.aload_n 0, 1) := by decide +kernel
theorem dX12_readsAll_8 : decode cX12_readsAll 8 = .ok (.getfield 13, 3) := by decide +kernel
theorem dX12_readsAll_11 : decode cX12_readsAll 11 = .ok (.iconst 5, 1) := by decide +kernel
theorem dX12_readsAll_12 : decode cX12_readsAll 12 = .ok (.iconst 0, 1) := by decide +kernel
theorem dX12_readsAll_13 : decode cX12_readsAll 13 = .ok (.iastore, 1) := by decide +kernel
theorem dX12_readsAll_14 : decode cX12_readsAll 14 = .ok (.aload_n 0, 1) := by decide +kernel
theorem dX12_readsAll_15 : decode cX12_readsAll 15 = .ok (.getfield 13, 3) := by decide +kernel
theorem dX12_readsAll_18 : decode cX12_readsAll 18 = .ok (.bipush 6, 2) := by decide +kernel
theorem dX12_readsAll_20 : decode cX12_readsAll 20 = .ok (.iconst 1, 1) := by decide +kernel
theorem dX12_readsAll_21 : decode cX12_readsAll 21 = .ok (.iastore, 1) := by decide +kernel
theorem dX12_readsAll_22 : decode cX12_readsAll 22 = .ok (.aload_n 0, 1) := by decide +kernel
theorem dX12_readsAll_23 : decode cX12_readsAll 23 = .ok (.getfield 13, 3) := by decide +kernel
theorem dX12_readsAll_26 : decode cX12_readsAll 26 = .ok (.bipush 7, 2) := by decide +kernel
theorem dX12_readsAll_28 : decode cX12_readsAll 28 = .ok (.iconst 2, 1) := by decide +kernel
theorem dX12_readsAll_29 : decode cX12_readsAll 29 = .ok (.iastore, 1) := by decide +kernel
theorem dX12_readsAll_30 : decode cX12_readsAll 30 = .ok (.aload_n 0, 1) := by decide +kernel
theorem dX12_readsAll_31 : decode cX12_readsAll 31 = .ok (.getfield 41, 3) := by decide +kernel
theorem dX12_readsAll_34 : decode cX12_readsAll 34 = .ok (.iconst 1, 1) := by decide +kernel
theorem dX12_readsAll_35 : decode cX12_readsAll 35 = .ok (.sipush 1000, 3) := by decide +kernel
theorem dX12_readsAll_38 : decode cX12_readsAll 38 = .ok (.iastore, 1) := by decide +kernel
theorem dX12_readsAll_39 : decode cX12_readsAll 39 = .ok (.aload_n 0, 1) := by decide +kernel
theorem dX12_readsAll_40 : decode cX12_readsAll 40 = .ok (.getfield 44, 3) := by decide +kernel
theorem dX12_readsAll_43 : decode cX12_readsAll 43 = .ok (.iconst 1, 1) := by decide +kernel
theorem dX12_readsAll_44 : decode cX12_readsAll 44 = .ok (.sipush 1000, 3) := by decide +kernel
theorem dX12_readsAll_47 : decode cX12_readsAll 47 = .ok (.iastore, 1) := by decide +kernel
theorem dX12_readsAll_48 : decode cX12_readsAll 48 = .ok (.aload_n 0, 1) := by decide +kernel
theorem dX12_readsAll_49 : decode cX12_readsAll 49 = .ok (.iconst 0, 1) := by decide +kernel
theorem dX12_readsAll_50 : decode cX12_readsAll 50 = .ok (.putfield 292, 3) := by decide +kernel
theorem dX12_readsAll_53 : decode cX12_readsAll 53 = .ok (.aload_n 0, 1) := by decide +kernel
theorem dX12_readsAll_54 : decode cX12_readsAll 54 = .ok (.sipush 1000, 3) := by decide +kernel
theorem dX12_readsAll_57 : decode cX12_readsAll 57 = .ok (.putfield 168, 3) := by decide +kernel
theorem dX12_readsAll_60 : decode cX12_readsAll 60 = .ok (.aload_n 0, 1) := by decide +kernel
theorem dX12_readsAll_61 : decode cX12_readsAll 61 = .ok (.invokevirtual 298, 3) := by decide +kernel
theorem dX12_readsAll_64 : decode cX12_readsAll 64 = .ok (.aload_n 0, 1) := by decide +kernel
theorem dX12_readsAll_65 : decode cX12_readsAll 65 = .ok (.getfield 154, 3) := by decide +kernel
theorem dX12_readsAll_68 : decode cX12_readsAll 68 = .ok (.ifCond .eq 127, 3) := by decide +kernel
theorem dX12_readsAll_71 : decode cX12_readsAll 71 = .ok (.aload_n 0, 1) := by decide +kernel
theorem dX12_readsAll_72 : decode cX12_readsAll 72 = .ok (.ldc2_w 216, 3) := by decide +kernel
theorem dX12_readsAll_75 : decode cX12_readsAll 75 = .ok (.invokevirtual 185, 3) := by decide +kernel
theorem dX12_readsAll_78 : decode cX12_readsAll 78 = .ok (.ifCond .eq 10, 3) := by decide +kernel
theorem dX12_readsAll_81 : decode cX12_readsAll 81 = .ok (.aload_n 0, 1) := by decide +kernel
theorem dX12_readsAll_82 : decode cX12_readsAll 82 = .ok (.invokevirtual 301, 3) := by decide +kernel
theorem dX12_readsAll_85 : decode cX12_readsAll 85 = .ok (.goto 100, 3) := by decide +kernel
theorem dX12_readsAll_88 : decode cX12_readsAll 88 = .ok (.aload_n 0, 1) := by decide +kernel
theorem dX12_readsAll_89 : decode cX12_readsAll 89 = .ok (.ldc2_w 220, 3) := by decide +kernel
theorem dX12_readsAll_92 : decode cX12_readsAll 92 = .ok (.invokevirtual 185, 3) := by decide +kernel
theorem dX12_readsAll_95 : decode cX12_readsAll 95 = .ok (.ifCond .eq 10, 3) := by decide +kernel
theorem dX12_readsAll_98 : decode cX12_readsAll 98 = .ok (.aload_n 0, 1) := by decide +kernel
theorem dX12_readsAll_99 : decode cX12_readsAll 99 = .ok (.invokevirtual 304, 3) := by decide +kernel
theorem dX12_readsAll_102 : decode cX12_readsAll 102 = .ok (.goto 83, 3) := by decide +kernel
theorem dX12_readsAll_105 : decode cX12_readsAll 105 = .ok (.aload_n 0, 1) := by decide +kernel
theorem dX12_readsAll_106 : decode cX12_readsAll 106 = .ok (.ldc2_w 222, 3) := by decide +kernel
theorem dX12_readsAll_109 : decode cX12_readsAll 109 = .ok (.invokevirtual 185, 3) := by decide +kernel
theorem dX12_readsAll_112 : decode cX12_readsAll 112 = .ok (.ifCond .eq 10, 3) := by decide +kernel
theorem dX12_readsAll_115 : decode cX12_readsAll 115 = .ok (.aload_n 0, 1) := by decide +kernel
theorem dX12_readsAll_116 : decode cX12_readsAll 116 = .ok (.invokevirtual 307, 3) := by decide +kernel
theorem dX12_readsAll_119 : decode cX12_readsAll 119 = .ok (.goto 66, 3) := by decide +kernel
theorem dX12_readsAll_122 : decode cX12_readsAll 122 = .ok (.aload_n 0, 1) := by decide +kernel
theorem dX12_readsAll_123 : decode cX12_readsAll 123 = .ok (.ldc2_w 230, 3) := by decide +kernel
theorem dX12_readsAll_126 : decode cX12_readsAll 126 = .ok (.invokevirtual 185, 3) := by decide +kernel
theorem dX12_readsAll_129 : decode cX12_readsAll 129 = .ok (.ifCond .eq 13, 3) := by decide +kernel
theorem dX12_readsAll_132 : decode cX12_readsAll 132 = .ok (.aload_n 0, 1) := by decide +kernel
theorem dX12_readsAll_133 : decode cX12_readsAll 133 = .ok (.iconst 2, 1) := by decide +kernel
theorem dX12_readsAll_134 : decode cX12_readsAll 134 = .ok (.iconst 0, 1) := by decide +kernel
theorem dX12_readsAll_135 : decode cX12_readsAll 135 = .ok (.iconst 5, 1) := by decide +kernel
theorem dX12_readsAll_136 : decode cX12_readsAll 136 = .ok (.invokevirtual 310, 3) := by decide +kernel
theorem dX12_readsAll_139 : decode cX12_readsAll 139 = .ok (.goto 46, 3) := by decide +kernel
theorem dX12_readsAll_142 : decode cX12_readsAll 142 = .ok (.aload_n 0, 1) := by decide +kernel
theorem dX12_readsAll_143 : decode cX12_readsAll 143 = .ok (.ldc2_w 232, 3) := by decide +kernel
theorem dX12_readsAll_146 : decode cX12_readsAll 146 = .ok (.invokevirtual 185, 3) := by decide +kernel
theorem dX12_readsAll_149 : decode cX12_readsAll 149 = .ok (.ifCond .eq 14, 3) := by decide +kernel
theorem dX12_readsAll_152 : decode cX12_readsAll 152 = .ok (.aload_n 0, 1) := by decide +kernel
theorem dX12_readsAll_153 : decode cX12_readsAll 153 = .ok (.iconst 3, 1) := by decide +kernel
theorem dX12_readsAll_154 : decode cX12_readsAll 154 = .ok (.iconst 1, 1) := by decide +kernel
theorem dX12_readsAll_155 : decode cX12_readsAll 155 = .ok (.bipush 9, 2) := by decide +kernel
theorem dX12_readsAll_157 : decode cX12_readsAll 157 = .ok (.invokevirtual 310, 3) := by decide +kernel
theorem dX12_readsAll_160 : decode cX12_readsAll 160 = .ok (.goto 25, 3) := by decide +kernel
theorem dX12_readsAll_163 : decode cX12_readsAll 163 = .ok (.aload_n 0, 1) := by decide +kernel
theorem dX12_readsAll_164 : decode cX12_readsAll 164 = .ok (.ldc2_w 234, 3) := by decide +kernel
theorem dX12_readsAll_167 : decode cX12_readsAll 167 = .ok (.invokevirtual 185, 3) := by decide +kernel
theorem dX12_readsAll_170 : decode cX12_readsAll 170 = .ok (.ifCond .eq 10, 3) := by decide +kernel
theorem dX12_readsAll_173 : decode cX12_readsAll 173 = .ok (.aload_n 0, 1) := by decide +kernel
theorem dX12_readsAll_174 : decode cX12_readsAll 174 = .ok (.invokevirtual 313, 3) := by decide +kernel
theorem dX12_readsAll_177 : decode cX12_readsAll 177 = .ok (.goto 8, 3) := by decide +kernel
theorem dX12_readsAll_180 : decode cX12_readsAll 180 = .ok (.aload_n 0, 1) := by decide +kernel
theorem dX12_readsAll_181 : decode cX12_readsAll 181 = .ok (.iconst 1, 1) := by decide +kernel
theorem dX12_readsAll_182 : decode cX12_readsAll 182 = .ok (.invokevirtual 193, 3) := by decide +kernel
theorem dX12_readsAll_185 : decode cX12_readsAll 185 = .ok (.istore_n 1, 1) := by decide +kernel
theorem dX12_readsAll_186 : decode cX12_readsAll 186 = .ok (.iload_n 1, 1) := by decide +kernel
theorem dX12_readsAll_187 : decode cX12_readsAll 187 = .ok (.ifCond .ne 5, 3) := by decide +kernel
theorem dX12_readsAll_190 : decode cX12_readsAll 190 = .ok (.iconst 0, 1) := by decide +kernel
theorem dX12_readsAll_191 : decode cX12_readsAll 191 = .ok (.ireturn, 1) := by decide +kernel
theorem dX12_readsAll_192 : decode cX12_readsAll 192 = .ok (.goto (-128), 3) := by decide +kernel
theorem dX12_readsAll_195 : decode cX12_readsAll 195 = .ok (.iconst 1, 1) := by decide +kernel
theorem dX12_readsAll_196 : decode cX12_readsAll 196 = .ok (.ireturn, 1) := by decide +kernel
theorem dX12_shifts_0 : decode cX12_shifts 0 = .ok (.iconst 0, 1) := by decide +kernel
theorem dX12_shifts_1 : decode cX12_shifts 1 = .ok (.istore_n 2, 1) := by decide +kernel
theorem dX12_shifts_2 : decode cX12_shifts 2 = .ok (.iload_n 2, 1) := by decide +kernel
theorem dX12_shifts_3 : decode cX12_shifts 3 = .ok (.iload_n 1, 1) := by decide +kernel
theorem dX12_shifts_4 : decode cX12_shifts 4 = .ok (.if_icmp .ge 17, 3) := by decide +kernel
theorem dX12_shifts_7 : decode cX12_shifts 7 = .ok (.aload_n 0, 1) := by decide +kernel
theorem dX12_shifts_8 : decode cX12_shifts 8 = .ok (.iload_n 2, 1) := by decide +kernel
theorem dX12_shifts_9 : decode cX12_shifts 9 = .ok (.aload_n 0, 1) := by decide +kernel
theorem dX12_shifts_10 : decode cX12_shifts 10 = .ok (.iload_n 1, 1) := by decide +kernel
theorem dX12_shifts_11 : decode cX12_shifts 11 = .ok (.iload_n 2, 1) := by decide +kernel
theorem dX12_shifts_12 : decode cX12_shifts 12 = .ok (.iadd, 1) := by decide +kernel
theorem dX12_shifts_13 : decode cX12_shifts 13 = .ok (.iaload, 1) := by decide +kernel
theorem dX12_shifts_14 : decode cX12_shifts 14 = .ok (.iastore, 1) := by decide +kernel
theorem dX12_shifts_15 : decode cX12_shifts 15 = .ok (.iinc 2 1, 3) := by decide +kernel
theorem dX12_shifts_18 : decode cX12_shifts 18 = .ok (.goto (-16), 3) := by decide +kernel
theorem dX12_shifts_21 : decode cX12_shifts 21 = .ok (.return_, 1) := by decide +kernel
theorem dX12_shiftsNames_0 : decode cX12_shiftsNames 0 = .ok (.iconst 0, 1) := by decide +kernel
theorem dX12_shiftsNames_1 : decode cX12_shiftsNames 1 = .ok (.istore_n 1, 1) := by decide +kernel
theorem dX12_shiftsNames_2 : decode cX12_shiftsNames 2 = .ok (.iload_n 1, 1) := by decide +kernel
theorem dX12_shiftsNames_3 : decode cX12_shiftsNames 3 = .ok (.bipush 6, 2) := by decide +kernel
theorem dX12_shiftsNames_5 : decode cX12_shiftsNames 5 = .ok (.if_icmp .ge 18, 3) := by decide +kernel
theorem dX12_shiftsNames_8 : decode cX12_shiftsNames 8 = .ok (.aload_n 0, 1) := by decide +kernel
theorem dX12_shiftsNames_9 : decode cX12_shiftsNames 9 = .ok (.iload_n 1, 1) := by decide +kernel
theorem dX12_shiftsNames_10 : decode cX12_shiftsNames 10 = .ok (.aload_n 0, 1) := by decide +kernel
theorem dX12_shiftsNames_11 : decode cX12_shiftsNames 11 = .ok (.bipush 6, 2) := by decide +kernel
theorem dX12_shiftsNames_13 : decode cX12_shiftsNames 13 = .ok (.iload_n 1, 1) := by decide +kernel
theorem dX12_shiftsNames_14 : decode cX12_shiftsNames 14 = .ok (.iadd, 1) := by decide +kernel
theorem dX12_shiftsNames_15 : decode cX12_shiftsNames 15 = .ok (.laload, 1) := by decide +kernel
theorem dX12_shiftsNames_16 : decode cX12_shiftsNames 16 = .ok (.lastore, 1) := by decide +kernel
theorem dX12_shiftsNames_17 : decode cX12_shiftsNames 17 = .ok (.iinc 1 1, 3) := by decide +kernel
theorem dX12_shiftsNames_20 : decode cX12_shiftsNames 20 = .ok (.goto (-18), 3) := by decide +kernel
theorem dX12_shiftsNames_23 : decode cX12_shiftsNames 23 = .ok (.return_, 1) := by decide +kernel
theorem dX12_lays_0 : decode cX12_lays 0 = .ok (.aload_n 0, 1) := by decide +kernel
theorem dX12_lays_1 : decode cX12_lays 1 = .ok (.getfield 13, 3) := by decide +kernel
theorem dX12_lays_4 : decode cX12_lays 4 = .ok (.iconst 4, 1) := by decide +kernel
theorem dX12_lays_5 : decode cX12_lays 5 = .ok (.invokestatic 316, 3) := by decide +kernel
theorem dX12_lays_8 : decode cX12_lays 8 = .ok (.aload_n 0, 1) := by decide +kernel
theorem dX12_lays_9 : decode cX12_lays 9 = .ok (.getfield 16, 3) := by decide +kernel
theorem dX12_lays_12 : decode cX12_lays 12 = .ok (.invokestatic 320, 3) := by decide +kernel
theorem dX12_lays_15 : decode cX12_lays 15 = .ok (.aload_n 0, 1) := by decide +kernel
theorem dX12_lays_16 : decode cX12_lays 16 = .ok (.getfield 20, 3) := by decide +kernel
theorem dX12_lays_19 : decode cX12_lays 19 = .ok (.invokestatic 320, 3) := by decide +kernel
theorem dX12_lays_22 : decode cX12_lays 22 = .ok (.aload_n 0, 1) := by decide +kernel
theorem dX12_lays_23 : decode cX12_lays 23 = .ok (.getfield 23, 3) := by decide +kernel
theorem dX12_lays_26 : decode cX12_lays 26 = .ok (.bipush 6, 2) := by decide +kernel
theorem dX12_lays_28 : decode cX12_lays 28 = .ok (.invokestatic 316, 3) := by decide +kernel
theorem dX12_lays_31 : decode cX12_lays 31 = .ok (.aload_n 0, 1) := by decide +kernel
theorem dX12_lays_32 : decode cX12_lays 32 = .ok (.getfield 26, 3) := by decide +kernel
theorem dX12_lays_35 : decode cX12_lays 35 = .ok (.bipush 6, 2) := by decide +kernel
theorem dX12_lays_37 : decode cX12_lays 37 = .ok (.invokestatic 316, 3) := by decide +kernel
theorem dX12_lays_40 : decode cX12_lays 40 = .ok (.aload_n 0, 1) := by decide +kernel
theorem dX12_lays_41 : decode cX12_lays 41 = .ok (.getfield 29, 3) := by decide +kernel
theorem dX12_lays_44 : decode cX12_lays 44 = .ok (.bipush 6, 2) := by decide +kernel
theorem dX12_lays_46 : decode cX12_lays 46 = .ok (.invokestatic 316, 3) := by decide +kernel
theorem dX12_lays_49 : decode cX12_lays 49 = .ok (.aload_n 0, 1) := by decide +kernel
theorem dX12_lays_50 : decode cX12_lays 50 = .ok (.getfield 32, 3) := by decide +kernel
theorem dX12_lays_53 : decode cX12_lays 53 = .ok (.bipush 6, 2) := by decide +kernel
theorem dX12_lays_55 : decode cX12_lays 55 = .ok (.invokestatic 316, 3) := by decide +kernel
theorem dX12_lays_58 : decode cX12_lays 58 = .ok (.aload_n 0, 1) := by decide +kernel
theorem dX12_lays_59 : decode cX12_lays 59 = .ok (.getfield 35, 3) := by decide +kernel
theorem dX12_lays_62 : decode cX12_lays 62 = .ok (.bipush 6, 2) := by decide +kernel
theorem dX12_lays_64 : decode cX12_lays 64 = .ok (.invokestatic 316, 3) := by decide +kernel
theorem dX12_lays_67 : decode cX12_lays 67 = .ok (.aload_n 0, 1) := by decide +kernel
theorem dX12_lays_68 : decode cX12_lays 68 = .ok (.getfield 38, 3) := by decide +kernel
theorem dX12_lays_71 : decode cX12_lays 71 = .ok (.bipush 6, 2) := by decide +kernel
theorem dX12_lays_73 : decode cX12_lays 73 = .ok (.invokestatic 316, 3) := by decide +kernel
theorem dX12_lays_76 : decode cX12_lays 76 = .ok (.aload_n 0, 1) := by decide +kernel
theorem dX12_lays_77 : decode cX12_lays 77 = .ok (.getfield 47, 3) := by decide +kernel
theorem dX12_lays_80 : decode cX12_lays 80 = .ok (.sipush 1000, 3) := by decide +kernel
theorem dX12_lays_83 : decode cX12_lays 83 = .ok (.invokestatic 316, 3) := by decide +kernel
theorem dX12_lays_86 : decode cX12_lays 86 = .ok (.aload_n 0, 1) := by decide +kernel
theorem dX12_lays_87 : decode cX12_lays 87 = .ok (.getfield 41, 3) := by decide +kernel
theorem dX12_lays_90 : decode cX12_lays 90 = .ok (.iconst 0, 1) := by decide +kernel
theorem dX12_lays_91 : decode cX12_lays 91 = .ok (.aload_n 0, 1) := by decide +kernel
theorem dX12_lays_92 : decode cX12_lays 92 = .ok (.getfield 41, 3) := by decide +kernel
theorem dX12_lays_95 : decode cX12_lays 95 = .ok (.iconst 1, 1) := by decide +kernel
theorem dX12_lays_96 : decode cX12_lays 96 = .ok (.iaload, 1) := by decide +kernel
theorem dX12_lays_97 : decode cX12_lays 97 = .ok (.sipush 1000, 3) := by decide +kernel
theorem dX12_lays_100 : decode cX12_lays 100 = .ok (.isub, 1) := by decide +kernel
theorem dX12_lays_101 : decode cX12_lays 101 = .ok (.iastore, 1) := by decide +kernel
theorem dX12_lays_102 : decode cX12_lays 102 = .ok (.aload_n 0, 1) := by decide +kernel
theorem dX12_lays_103 : decode cX12_lays 103 = .ok (.getfield 44, 3) := by decide +kernel
theorem dX12_lays_106 : decode cX12_lays 106 = .ok (.iconst 0, 1) := by decide +kernel
theorem dX12_lays_107 : decode cX12_lays 107 = .ok (.aload_n 0, 1) := by decide +kernel
theorem dX12_lays_108 : decode cX12_lays 108 = .ok (.getfield 44, 3) := by decide +kernel
theorem dX12_lays_111 : decode cX12_lays 111 = .ok (.iconst 1, 1) := by decide +kernel
theorem dX12_lays_112 : decode cX12_lays 112 = .ok (.iaload, 1) := by decide +kernel
theorem dX12_lays_113 : decode cX12_lays 113 = .ok (.sipush 1000, 3) := by decide +kernel
theorem dX12_lays_116 : decode cX12_lays 116 = .ok (.isub, 1) := by decide +kernel
theorem dX12_lays_117 : decode cX12_lays 117 = .ok (.iastore, 1) := by decide +kernel
theorem dX12_lays_118 : decode cX12_lays 118 = .ok (.return_, 1) := by decide +kernel
theorem dX12_copies_0 : decode cX12_copies 0 = .ok (.iconst 0, 1) := by decide +kernel
theorem dX12_copies_1 : decode cX12_copies 1 = .ok (.istore 4, 2) := by decide +kernel
theorem dX12_copies_3 : decode cX12_copies 3 = .ok (.iload 4, 2) := by decide +kernel
theorem dX12_copies_5 : decode cX12_copies 5 = .ok (.bipush 31, 2) := by decide +kernel
theorem dX12_copies_7 : decode cX12_copies 7 = .ok (.if_icmp .ge 21, 3) := by decide +kernel
theorem dX12_copies_10 : decode cX12_copies 10 = .ok (.aload_n 2, 1) := by decide +kernel
theorem dX12_copies_11 : decode cX12_copies 11 = .ok (.iload_n 3, 1) := by decide +kernel
theorem dX12_copies_12 : decode cX12_copies 12 = .ok (.iload 4, 2) := by decide +kernel
theorem dX12_copies_14 : decode cX12_copies 14 = .ok (.iadd, 1) := by decide +kernel
theorem dX12_copies_15 : decode cX12_copies 15 = .ok (.aload_n 0, 1) := by decide +kernel
theorem dX12_copies_16 : decode cX12_copies 16 = .ok (.iload_n 1, 1) := by decide +kernel
theorem dX12_copies_17 : decode cX12_copies 17 = .ok (.iload 4, 2) := by decide +kernel
theorem dX12_copies_19 : decode cX12_copies 19 = .ok (.iadd, 1) := by decide +kernel
theorem dX12_copies_20 : decode cX12_copies 20 = .ok (.iaload, 1) := by decide +kernel
theorem dX12_copies_21 : decode cX12_copies 21 = .ok (.iastore, 1) := by decide +kernel
theorem dX12_copies_22 : decode cX12_copies 22 = .ok (.iinc 4 1, 3) := by decide +kernel
theorem dX12_copies_25 : decode cX12_copies 25 = .ok (.goto (-22), 3) := by decide +kernel
theorem dX12_copies_28 : decode cX12_copies 28 = .ok (.return_, 1) := by decide +kernel
theorem dX12_readsLine_0 : decode cX12_readsLine 0 = .ok (.aload_n 0, 1) := by decide +kernel
theorem dX12_readsLine_1 : decode cX12_readsLine 1 = .ok (.ldc2_w 236, 3) := by decide +kernel
theorem dX12_readsLine_4 : decode cX12_readsLine 4 = .ok (.invokevirtual 185, 3) := by decide +kernel
theorem dX12_readsLine_7 : decode cX12_readsLine 7 = .ok (.ifCond .eq 7, 3) := by decide +kernel
theorem dX12_readsLine_10 : decode cX12_readsLine 10 = .ok (.iconst 0, 1) := by decide +kernel
theorem dX12_readsLine_11 : decode cX12_readsLine 11 = .ok (.goto 46, 3) := by decide +kernel
theorem dX12_readsLine_14 : decode cX12_readsLine 14 = .ok (.aload_n 0, 1) := by decide +kernel
theorem dX12_readsLine_15 : decode cX12_readsLine 15 = .ok (.ldc2_w 238, 3) := by decide +kernel
theorem dX12_readsLine_18 : decode cX12_readsLine 18 = .ok (.invokevirtual 185, 3) := by decide +kernel
theorem dX12_readsLine_21 : decode cX12_readsLine 21 = .ok (.ifCond .eq 7, 3) := by decide +kernel
theorem dX12_readsLine_24 : decode cX12_readsLine 24 = .ok (.iconst 1, 1) := by decide +kernel
theorem dX12_readsLine_25 : decode cX12_readsLine 25 = .ok (.goto 32, 3) := by decide +kernel
theorem dX12_readsLine_28 : decode cX12_readsLine 28 = .ok (.aload_n 0, 1) := by decide +kernel
theorem dX12_readsLine_29 : decode cX12_readsLine 29 = .ok (.ldc2_w 240, 3) := by decide +kernel
theorem dX12_readsLine_32 : decode cX12_readsLine 32 = .ok (.invokevirtual 185, 3) := by decide +kernel
theorem dX12_readsLine_35 : decode cX12_readsLine 35 = .ok (.ifCond .eq 7, 3) := by decide +kernel
theorem dX12_readsLine_38 : decode cX12_readsLine 38 = .ok (.iconst 2, 1) := by decide +kernel
theorem dX12_readsLine_39 : decode cX12_readsLine 39 = .ok (.goto 18, 3) := by decide +kernel
theorem dX12_readsLine_42 : decode cX12_readsLine 42 = .ok (.aload_n 0, 1) := by decide +kernel
theorem dX12_readsLine_43 : decode cX12_readsLine 43 = .ok (.ldc2_w 242, 3) := by decide +kernel
theorem dX12_readsLine_46 : decode cX12_readsLine 46 = .ok (.invokevirtual 185, 3) := by decide +kernel
theorem dX12_readsLine_49 : decode cX12_readsLine 49 = .ok (.ifCond .eq 7, 3) := by decide +kernel
theorem dX12_readsLine_52 : decode cX12_readsLine 52 = .ok (.iconst 3, 1) := by decide +kernel
theorem dX12_readsLine_53 : decode cX12_readsLine 53 = .ok (.goto 4, 3) := by decide +kernel
theorem dX12_readsLine_56 : decode cX12_readsLine 56 = .ok (.iconst (-1), 1) := by decide +kernel
theorem dX12_readsLine_57 : decode cX12_readsLine 57 = .ok (.istore_n 1, 1) := by decide +kernel
theorem dX12_readsLine_58 : decode cX12_readsLine 58 = .ok (.iload_n 1, 1) := by decide +kernel
theorem dX12_readsLine_59 : decode cX12_readsLine 59 = .ok (.ifCond .ge 9, 3) := by decide +kernel
theorem dX12_readsLine_62 : decode cX12_readsLine 62 = .ok (.aload_n 0, 1) := by decide +kernel
theorem dX12_readsLine_63 : decode cX12_readsLine 63 = .ok (.iconst 1, 1) := by decide +kernel
theorem dX12_readsLine_64 : decode cX12_readsLine 64 = .ok (.invokevirtual 193, 3) := by decide +kernel
theorem dX12_readsLine_67 : decode cX12_readsLine 67 = .ok (.ireturn, 1) := by decide +kernel
theorem dX12_readsLine_68 : decode cX12_readsLine 68 = .ok (.aload_n 0, 1) := by decide +kernel
theorem dX12_readsLine_69 : decode cX12_readsLine 69 = .ok (.getfield 87, 3) := by decide +kernel
theorem dX12_readsLine_72 : decode cX12_readsLine 72 = .ok (.iconst 5, 1) := by decide +kernel
theorem dX12_readsLine_73 : decode cX12_readsLine 73 = .ok (.iaload, 1) := by decide +kernel
theorem dX12_readsLine_74 : decode cX12_readsLine 74 = .ok (.bipush 40, 2) := by decide +kernel
theorem dX12_readsLine_76 : decode cX12_readsLine 76 = .ok (.if_icmp .ne 9, 3) := by decide +kernel
theorem dX12_readsLine_79 : decode cX12_readsLine 79 = .ok (.aload_n 0, 1) := by decide +kernel
theorem dX12_readsLine_80 : decode cX12_readsLine 80 = .ok (.iconst 5, 1) := by decide +kernel
theorem dX12_readsLine_81 : decode cX12_readsLine 81 = .ok (.invokevirtual 193, 3) := by decide +kernel
theorem dX12_readsLine_84 : decode cX12_readsLine 84 = .ok (.ireturn, 1) := by decide +kernel
theorem dX12_readsLine_85 : decode cX12_readsLine 85 = .ok (.aload_n 0, 1) := by decide +kernel
theorem dX12_readsLine_86 : decode cX12_readsLine 86 = .ok (.invokevirtual 200, 3) := by decide +kernel
theorem dX12_readsLine_89 : decode cX12_readsLine 89 = .ok (.sipush 200, 3) := by decide +kernel
theorem dX12_readsLine_92 : decode cX12_readsLine 92 = .ok (.aload_n 0, 1) := by decide +kernel
theorem dX12_readsLine_93 : decode cX12_readsLine 93 = .ok (.getfield 87, 3) := by decide +kernel
theorem dX12_readsLine_96 : decode cX12_readsLine 96 = .ok (.iconst 5, 1) := by decide +kernel
theorem dX12_readsLine_97 : decode cX12_readsLine 97 = .ok (.iaload, 1) := by decide +kernel
theorem dX12_readsLine_98 : decode cX12_readsLine 98 = .ok (.iadd, 1) := by decide +kernel
theorem dX12_readsLine_99 : decode cX12_readsLine 99 = .ok (.istore_n 2, 1) := by decide +kernel
theorem dX12_readsLine_100 : decode cX12_readsLine 100 = .ok (.aload_n 0, 1) := by decide +kernel
theorem dX12_readsLine_101 : decode cX12_readsLine 101 = .ok (.getfield 90, 3) := by decide +kernel
theorem dX12_readsLine_104 : decode cX12_readsLine 104 = .ok (.iload_n 2, 1) := by decide +kernel
theorem dX12_readsLine_105 : decode cX12_readsLine 105 = .ok (.iload_n 1, 1) := by decide +kernel
theorem dX12_readsLine_106 : decode cX12_readsLine 106 = .ok (.iastore, 1) := by decide +kernel
theorem dX12_readsLine_107 : decode cX12_readsLine 107 = .ok (.iload_n 1, 1) := by decide +kernel
theorem dX12_readsLine_108 : decode cX12_readsLine 108 = .ok (.iconst 3, 1) := by decide +kernel
theorem dX12_readsLine_109 : decode cX12_readsLine 109 = .ok (.if_icmp .eq 26, 3) := by decide +kernel
theorem dX12_readsLine_112 : decode cX12_readsLine 112 = .ok (.aload_n 0, 1) := by decide +kernel
theorem dX12_readsLine_113 : decode cX12_readsLine 113 = .ok (.invokevirtual 324, 3) := by decide +kernel
theorem dX12_readsLine_116 : decode cX12_readsLine 116 = .ok (.ifCond .ne 5, 3) := by decide +kernel
theorem dX12_readsLine_119 : decode cX12_readsLine 119 = .ok (.iconst 0, 1) := by decide +kernel
theorem dX12_readsLine_120 : decode cX12_readsLine 120 = .ok (.ireturn, 1) := by decide +kernel
theorem dX12_readsLine_121 : decode cX12_readsLine 121 = .ok (.aload_n 0, 1) := by decide +kernel
theorem dX12_readsLine_122 : decode cX12_readsLine 122 = .ok (.getfield 93, 3) := by decide +kernel
theorem dX12_readsLine_125 : decode cX12_readsLine 125 = .ok (.iload_n 2, 1) := by decide +kernel
theorem dX12_readsLine_126 : decode cX12_readsLine 126 = .ok (.aload_n 0, 1) := by decide +kernel
theorem dX12_readsLine_127 : decode cX12_readsLine 127 = .ok (.getfield 256, 3) := by decide +kernel
theorem dX12_readsLine_130 : decode cX12_readsLine 130 = .ok (.iastore, 1) := by decide +kernel
theorem dX12_readsLine_131 : decode cX12_readsLine 131 = .ok (.aload_n 0, 1) := by decide +kernel
theorem dX12_readsLine_132 : decode cX12_readsLine 132 = .ok (.invokevirtual 200, 3) := by decide +kernel
theorem dX12_readsLine_135 : decode cX12_readsLine 135 = .ok (.iload_n 1, 1) := by decide +kernel
theorem dX12_readsLine_136 : decode cX12_readsLine 136 = .ok (.ifCond .ne 20, 3) := by decide +kernel
theorem dX12_readsLine_139 : decode cX12_readsLine 139 = .ok (.aload_n 0, 1) := by decide +kernel
theorem dX12_readsLine_140 : decode cX12_readsLine 140 = .ok (.iconst 0, 1) := by decide +kernel
theorem dX12_readsLine_141 : decode cX12_readsLine 141 = .ok (.invokevirtual 289, 3) := by decide +kernel
theorem dX12_readsLine_144 : decode cX12_readsLine 144 = .ok (.ifCond .ne 5, 3) := by decide +kernel
theorem dX12_readsLine_147 : decode cX12_readsLine 147 = .ok (.iconst 0, 1) := by decide +kernel
theorem dX12_readsLine_148 : decode cX12_readsLine 148 = .ok (.ireturn, 1) := by decide +kernel
theorem dX12_readsLine_149 : decode cX12_readsLine 149 = .ok (.aload_n 0, 1) := by decide +kernel
theorem dX12_readsLine_150 : decode cX12_readsLine 150 = .ok (.invokevirtual 200, 3) := by decide +kernel
theorem dX12_readsLine_153 : decode cX12_readsLine 153 = .ok (.goto 20, 3) := by decide +kernel
theorem dX12_readsLine_156 : decode cX12_readsLine 156 = .ok (.iload_n 1, 1) := by decide +kernel
theorem dX12_readsLine_157 : decode cX12_readsLine 157 = .ok (.iconst 1, 1) := by decide +kernel
theorem dX12_readsLine_158 : decode cX12_readsLine 158 = .ok (.if_icmp .ne 15, 3) := by decide +kernel
theorem dX12_readsLine_161 : decode cX12_readsLine 161 = .ok (.aload_n 0, 1) := by decide +kernel
theorem dX12_readsLine_162 : decode cX12_readsLine 162 = .ok (.iconst 1, 1) := by decide +kernel
theorem dX12_readsLine_163 : decode cX12_readsLine 163 = .ok (.bipush 20, 2) := by decide +kernel
theorem dX12_readsLine_165 : decode cX12_readsLine 165 = .ok (.invokevirtual 262, 3) := by decide +kernel
theorem dX12_readsLine_168 : decode cX12_readsLine 168 = .ok (.ifCond .ne 5, 3) := by decide +kernel
theorem dX12_readsLine_171 : decode cX12_readsLine 171 = .ok (.iconst 0, 1) := by decide +kernel
theorem dX12_readsLine_172 : decode cX12_readsLine 172 = .ok (.ireturn, 1) := by decide +kernel
theorem dX12_readsLine_173 : decode cX12_readsLine 173 = .ok (.aload_n 0, 1) := by decide +kernel
theorem dX12_readsLine_174 : decode cX12_readsLine 174 = .ok (.getfield 96, 3) := by decide +kernel
theorem dX12_readsLine_177 : decode cX12_readsLine 177 = .ok (.iload_n 2, 1) := by decide +kernel
theorem dX12_readsLine_178 : decode cX12_readsLine 178 = .ok (.aload_n 0, 1) := by decide +kernel
theorem dX12_readsLine_179 : decode cX12_readsLine 179 = .ok (.getfield 256, 3) := by decide +kernel
theorem dX12_readsLine_182 : decode cX12_readsLine 182 = .ok (.iastore, 1) := by decide +kernel
theorem dX12_readsLine_183 : decode cX12_readsLine 183 = .ok (.aload_n 0, 1) := by decide +kernel
theorem dX12_readsLine_184 : decode cX12_readsLine 184 = .ok (.getfield 87, 3) := by decide +kernel
theorem dX12_readsLine_187 : decode cX12_readsLine 187 = .ok (.iconst 5, 1) := by decide +kernel
theorem dX12_readsLine_188 : decode cX12_readsLine 188 = .ok (.dup2, 1) := by decide +kernel
theorem dX12_readsLine_189 : decode cX12_readsLine 189 = .ok (.iaload, 1) := by decide +kernel
theorem dX12_readsLine_190 : decode cX12_readsLine 190 = .ok (.iconst 1, 1) := by decide +kernel
theorem dX12_readsLine_191 : decode cX12_readsLine 191 = .ok (.iadd, 1) := by decide +kernel
theorem dX12_readsLine_192 : decode cX12_readsLine 192 = .ok (.iastore, 1) := by decide +kernel
theorem dX12_readsLine_193 : decode cX12_readsLine 193 = .ok (.aload_n 0, 1) := by decide +kernel
theorem dX12_readsLine_194 : decode cX12_readsLine 194 = .ok (.invokevirtual 286, 3) := by decide +kernel
theorem dX12_readsLine_197 : decode cX12_readsLine 197 = .ok (.ireturn, 1) := by decide +kernel
theorem dX12_laysLines_0 : decode cX12_laysLines 0 = .ok (.aload_n 0, 1) := by decide +kernel
theorem dX12_laysLines_1 : decode cX12_laysLines 1 = .ok (.getfield 87, 3) := by decide +kernel
theorem dX12_laysLines_4 : decode cX12_laysLines 4 = .ok (.iload_n 2, 1) := by decide +kernel
theorem dX12_laysLines_5 : decode cX12_laysLines 5 = .ok (.aload_n 0, 1) := by decide +kernel
theorem dX12_laysLines_6 : decode cX12_laysLines 6 = .ok (.getfield 87, 3) := by decide +kernel
theorem dX12_laysLines_9 : decode cX12_laysLines 9 = .ok (.iload_n 1, 1) := by decide +kernel
theorem dX12_laysLines_10 : decode cX12_laysLines 10 = .ok (.iaload, 1) := by decide +kernel
theorem dX12_laysLines_11 : decode cX12_laysLines 11 = .ok (.iastore, 1) := by decide +kernel
theorem dX12_laysLines_12 : decode cX12_laysLines 12 = .ok (.iconst 0, 1) := by decide +kernel
theorem dX12_laysLines_13 : decode cX12_laysLines 13 = .ok (.istore_n 3, 1) := by decide +kernel
theorem dX12_laysLines_14 : decode cX12_laysLines 14 = .ok (.iload_n 3, 1) := by decide +kernel
theorem dX12_laysLines_15 : decode cX12_laysLines 15 = .ok (.bipush 40, 2) := by decide +kernel
theorem dX12_laysLines_17 : decode cX12_laysLines 17 = .ok (.if_icmp .ge 75, 3) := by decide +kernel
theorem dX12_laysLines_20 : decode cX12_laysLines 20 = .ok (.aload_n 0, 1) := by decide +kernel
theorem dX12_laysLines_21 : decode cX12_laysLines 21 = .ok (.getfield 90, 3) := by decide +kernel
theorem dX12_laysLines_24 : decode cX12_laysLines 24 = .ok (.bipush 40, 2) := by decide +kernel
theorem dX12_laysLines_26 : decode cX12_laysLines 26 = .ok (.iload_n 2, 1) := by decide +kernel
theorem dX12_laysLines_27 : decode cX12_laysLines 27 = .ok (.imul, 1) := by decide +kernel
theorem dX12_laysLines_28 : decode cX12_laysLines 28 = .ok (.iload_n 3, 1) := by decide +kernel
theorem dX12_laysLines_29 : decode cX12_laysLines 29 = .ok (.iadd, 1) := by decide +kernel
theorem dX12_laysLines_30 : decode cX12_laysLines 30 = .ok (.aload_n 0, 1) := by decide +kernel
theorem dX12_laysLines_31 : decode cX12_laysLines 31 = .ok (.getfield 90, 3) := by decide +kernel
theorem dX12_laysLines_34 : decode cX12_laysLines 34 = .ok (.bipush 40, 2) := by decide +kernel
theorem dX12_laysLines_36 : decode cX12_laysLines 36 = .ok (.iload_n 1, 1) := by decide +kernel
theorem dX12_laysLines_37 : decode cX12_laysLines 37 = .ok (.imul, 1) := by decide +kernel
theorem dX12_laysLines_38 : decode cX12_laysLines 38 = .ok (.iload_n 3, 1) := by decide +kernel
theorem dX12_laysLines_39 : decode cX12_laysLines 39 = .ok (.iadd, 1) := by decide +kernel
theorem dX12_laysLines_40 : decode cX12_laysLines 40 = .ok (.iaload, 1) := by decide +kernel
theorem dX12_laysLines_41 : decode cX12_laysLines 41 = .ok (.iastore, 1) := by decide +kernel
theorem dX12_laysLines_42 : decode cX12_laysLines 42 = .ok (.aload_n 0, 1) := by decide +kernel
theorem dX12_laysLines_43 : decode cX12_laysLines 43 = .ok (.getfield 93, 3) := by decide +kernel
theorem dX12_laysLines_46 : decode cX12_laysLines 46 = .ok (.bipush 40, 2) := by decide +kernel
theorem dX12_laysLines_48 : decode cX12_laysLines 48 = .ok (.iload_n 2, 1) := by decide +kernel
theorem dX12_laysLines_49 : decode cX12_laysLines 49 = .ok (.imul, 1) := by decide +kernel
theorem dX12_laysLines_50 : decode cX12_laysLines 50 = .ok (.iload_n 3, 1) := by decide +kernel
theorem dX12_laysLines_51 : decode cX12_laysLines 51 = .ok (.iadd, 1) := by decide +kernel
theorem dX12_laysLines_52 : decode cX12_laysLines 52 = .ok (.aload_n 0, 1) := by decide +kernel
theorem dX12_laysLines_53 : decode cX12_laysLines 53 = .ok (.getfield 93, 3) := by decide +kernel
theorem dX12_laysLines_56 : decode cX12_laysLines 56 = .ok (.bipush 40, 2) := by decide +kernel
theorem dX12_laysLines_58 : decode cX12_laysLines 58 = .ok (.iload_n 1, 1) := by decide +kernel
theorem dX12_laysLines_59 : decode cX12_laysLines 59 = .ok (.imul, 1) := by decide +kernel
theorem dX12_laysLines_60 : decode cX12_laysLines 60 = .ok (.iload_n 3, 1) := by decide +kernel
theorem dX12_laysLines_61 : decode cX12_laysLines 61 = .ok (.iadd, 1) := by decide +kernel
theorem dX12_laysLines_62 : decode cX12_laysLines 62 = .ok (.iaload, 1) := by decide +kernel
theorem dX12_laysLines_63 : decode cX12_laysLines 63 = .ok (.iastore, 1) := by decide +kernel
theorem dX12_laysLines_64 : decode cX12_laysLines 64 = .ok (.aload_n 0, 1) := by decide +kernel
theorem dX12_laysLines_65 : decode cX12_laysLines 65 = .ok (.getfield 96, 3) := by decide +kernel
theorem dX12_laysLines_68 : decode cX12_laysLines 68 = .ok (.bipush 40, 2) := by decide +kernel
theorem dX12_laysLines_70 : decode cX12_laysLines 70 = .ok (.iload_n 2, 1) := by decide +kernel
theorem dX12_laysLines_71 : decode cX12_laysLines 71 = .ok (.imul, 1) := by decide +kernel
theorem dX12_laysLines_72 : decode cX12_laysLines 72 = .ok (.iload_n 3, 1) := by decide +kernel
theorem dX12_laysLines_73 : decode cX12_laysLines 73 = .ok (.iadd, 1) := by decide +kernel
theorem dX12_laysLines_74 : decode cX12_laysLines 74 = .ok (.aload_n 0, 1) := by decide +kernel
theorem dX12_laysLines_75 : decode cX12_laysLines 75 = .ok (.getfield 96, 3) := by decide +kernel
theorem dX12_laysLines_78 : decode cX12_laysLines 78 = .ok (.bipush 40, 2) := by decide +kernel
theorem dX12_laysLines_80 : decode cX12_laysLines 80 = .ok (.iload_n 1, 1) := by decide +kernel
theorem dX12_laysLines_81 : decode cX12_laysLines 81 = .ok (.imul, 1) := by decide +kernel
theorem dX12_laysLines_82 : decode cX12_laysLines 82 = .ok (.iload_n 3, 1) := by decide +kernel
theorem dX12_laysLines_83 : decode cX12_laysLines 83 = .ok (.iadd, 1) := by decide +kernel
theorem dX12_laysLines_84 : decode cX12_laysLines 84 = .ok (.iaload, 1) := by decide +kernel
theorem dX12_laysLines_85 : decode cX12_laysLines 85 = .ok (.iastore, 1) := by decide +kernel
theorem dX12_laysLines_86 : decode cX12_laysLines 86 = .ok (.iinc 3 1, 3) := by decide +kernel
theorem dX12_laysLines_89 : decode cX12_laysLines 89 = .ok (.goto (-75), 3) := by decide +kernel
theorem dX12_laysLines_92 : decode cX12_laysLines 92 = .ok (.return_, 1) := by decide +kernel
theorem dX12_laysSeen_0 : decode cX12_laysSeen 0 = .ok (.aload_n 0, 1) := by decide +kernel
theorem dX12_laysSeen_1 : decode cX12_laysSeen 1 = .ok (.getfield 99, 3) := by decide +kernel
theorem dX12_laysSeen_4 : decode cX12_laysSeen 4 = .ok (.iload_n 2, 1) := by decide +kernel
theorem dX12_laysSeen_5 : decode cX12_laysSeen 5 = .ok (.aload_n 0, 1) := by decide +kernel
theorem dX12_laysSeen_6 : decode cX12_laysSeen 6 = .ok (.getfield 99, 3) := by decide +kernel
theorem dX12_laysSeen_9 : decode cX12_laysSeen 9 = .ok (.iload_n 1, 1) := by decide +kernel
theorem dX12_laysSeen_10 : decode cX12_laysSeen 10 = .ok (.iaload, 1) := by decide +kernel
theorem dX12_laysSeen_11 : decode cX12_laysSeen 11 = .ok (.iastore, 1) := by decide +kernel
theorem dX12_laysSeen_12 : decode cX12_laysSeen 12 = .ok (.iconst 0, 1) := by decide +kernel
theorem dX12_laysSeen_13 : decode cX12_laysSeen 13 = .ok (.istore_n 3, 1) := by decide +kernel
theorem dX12_laysSeen_14 : decode cX12_laysSeen 14 = .ok (.iload_n 3, 1) := by decide +kernel
theorem dX12_laysSeen_15 : decode cX12_laysSeen 15 = .ok (.bipush 8, 2) := by decide +kernel
theorem dX12_laysSeen_17 : decode cX12_laysSeen 17 = .ok (.if_icmp .ge 53, 3) := by decide +kernel
theorem dX12_laysSeen_20 : decode cX12_laysSeen 20 = .ok (.aload_n 0, 1) := by decide +kernel
theorem dX12_laysSeen_21 : decode cX12_laysSeen 21 = .ok (.getfield 102, 3) := by decide +kernel
theorem dX12_laysSeen_24 : decode cX12_laysSeen 24 = .ok (.bipush 8, 2) := by decide +kernel
theorem dX12_laysSeen_26 : decode cX12_laysSeen 26 = .ok (.iload_n 2, 1) := by decide +kernel
theorem dX12_laysSeen_27 : decode cX12_laysSeen 27 = .ok (.imul, 1) := by decide +kernel
theorem dX12_laysSeen_28 : decode cX12_laysSeen 28 = .ok (.iload_n 3, 1) := by decide +kernel
theorem dX12_laysSeen_29 : decode cX12_laysSeen 29 = .ok (.iadd, 1) := by decide +kernel
theorem dX12_laysSeen_30 : decode cX12_laysSeen 30 = .ok (.aload_n 0, 1) := by decide +kernel
theorem dX12_laysSeen_31 : decode cX12_laysSeen 31 = .ok (.getfield 102, 3) := by decide +kernel
theorem dX12_laysSeen_34 : decode cX12_laysSeen 34 = .ok (.bipush 8, 2) := by decide +kernel
theorem dX12_laysSeen_36 : decode cX12_laysSeen 36 = .ok (.iload_n 1, 1) := by decide +kernel
theorem dX12_laysSeen_37 : decode cX12_laysSeen 37 = .ok (.imul, 1) := by decide +kernel
theorem dX12_laysSeen_38 : decode cX12_laysSeen 38 = .ok (.iload_n 3, 1) := by decide +kernel
theorem dX12_laysSeen_39 : decode cX12_laysSeen 39 = .ok (.iadd, 1) := by decide +kernel
theorem dX12_laysSeen_40 : decode cX12_laysSeen 40 = .ok (.iaload, 1) := by decide +kernel
theorem dX12_laysSeen_41 : decode cX12_laysSeen 41 = .ok (.iastore, 1) := by decide +kernel
theorem dX12_laysSeen_42 : decode cX12_laysSeen 42 = .ok (.aload_n 0, 1) := by decide +kernel
theorem dX12_laysSeen_43 : decode cX12_laysSeen 43 = .ok (.getfield 105, 3) := by decide +kernel
theorem dX12_laysSeen_46 : decode cX12_laysSeen 46 = .ok (.bipush 8, 2) := by decide +kernel
theorem dX12_laysSeen_48 : decode cX12_laysSeen 48 = .ok (.iload_n 2, 1) := by decide +kernel
theorem dX12_laysSeen_49 : decode cX12_laysSeen 49 = .ok (.imul, 1) := by decide +kernel
theorem dX12_laysSeen_50 : decode cX12_laysSeen 50 = .ok (.iload_n 3, 1) := by decide +kernel
theorem dX12_laysSeen_51 : decode cX12_laysSeen 51 = .ok (.iadd, 1) := by decide +kernel
theorem dX12_laysSeen_52 : decode cX12_laysSeen 52 = .ok (.aload_n 0, 1) := by decide +kernel
theorem dX12_laysSeen_53 : decode cX12_laysSeen 53 = .ok (.getfield 105, 3) := by decide +kernel
theorem dX12_laysSeen_56 : decode cX12_laysSeen 56 = .ok (.bipush 8, 2) := by decide +kernel
theorem dX12_laysSeen_58 : decode cX12_laysSeen 58 = .ok (.iload_n 1, 1) := by decide +kernel
theorem dX12_laysSeen_59 : decode cX12_laysSeen 59 = .ok (.imul, 1) := by decide +kernel
theorem dX12_laysSeen_60 : decode cX12_laysSeen 60 = .ok (.iload_n 3, 1) := by decide +kernel
theorem dX12_laysSeen_61 : decode cX12_laysSeen 61 = .ok (.iadd, 1) := by decide +kernel
theorem dX12_laysSeen_62 : decode cX12_laysSeen 62 = .ok (.baload, 1) := by decide +kernel
theorem dX12_laysSeen_63 : decode cX12_laysSeen 63 = .ok (.bastore, 1) := by decide +kernel
theorem dX12_laysSeen_64 : decode cX12_laysSeen 64 = .ok (.iinc 3 1, 3) := by decide +kernel
theorem dX12_laysSeen_67 : decode cX12_laysSeen 67 = .ok (.goto (-53), 3) := by decide +kernel
theorem dX12_laysSeen_70 : decode cX12_laysSeen 70 = .ok (.return_, 1) := by decide +kernel
theorem dX12_fresh0_0 : decode cX12_fresh0 0 = .ok (.iconst 0, 1) := by decide +kernel
theorem dX12_fresh0_1 : decode cX12_fresh0 1 = .ok (.istore_n 1, 1) := by decide +kernel
theorem dX12_fresh0_2 : decode cX12_fresh0 2 = .ok (.iload_n 1, 1) := by decide +kernel
theorem dX12_fresh0_3 : decode cX12_fresh0 3 = .ok (.bipush 31, 2) := by decide +kernel
theorem dX12_fresh0_5 : decode cX12_fresh0 5 = .ok (.if_icmp .ge 16, 3) := by decide +kernel
theorem dX12_fresh0_8 : decode cX12_fresh0 8 = .ok (.aload_n 0, 1) := by decide +kernel
theorem dX12_fresh0_9 : decode cX12_fresh0 9 = .ok (.getfield 108, 3) := by decide +kernel
theorem dX12_fresh0_12 : decode cX12_fresh0 12 = .ok (.iload_n 1, 1) := by decide +kernel
theorem dX12_fresh0_13 : decode cX12_fresh0 13 = .ok (.iconst 0, 1) := by decide +kernel
theorem dX12_fresh0_14 : decode cX12_fresh0 14 = .ok (.iastore, 1) := by decide +kernel
theorem dX12_fresh0_15 : decode cX12_fresh0 15 = .ok (.iinc 1 1, 3) := by decide +kernel
theorem dX12_fresh0_18 : decode cX12_fresh0 18 = .ok (.goto (-16), 3) := by decide +kernel
theorem dX12_fresh0_21 : decode cX12_fresh0 21 = .ok (.iconst 0, 1) := by decide +kernel
theorem dX12_fresh0_22 : decode cX12_fresh0 22 = .ok (.istore_n 1, 1) := by decide +kernel
theorem dX12_fresh0_23 : decode cX12_fresh0 23 = .ok (.iload_n 1, 1) := by decide +kernel
theorem dX12_fresh0_24 : decode cX12_fresh0 24 = .ok (.aload_n 0, 1) := by decide +kernel
theorem dX12_fresh0_25 : decode cX12_fresh0 25 = .ok (.getfield 13, 3) := by decide +kernel
theorem dX12_fresh0_28 : decode cX12_fresh0 28 = .ok (.iconst 1, 1) := by decide +kernel
theorem dX12_fresh0_29 : decode cX12_fresh0 29 = .ok (.iaload, 1) := by decide +kernel
theorem dX12_fresh0_30 : decode cX12_fresh0 30 = .ok (.if_icmp .ge 70, 3) := by decide +kernel
theorem dX12_fresh0_33 : decode cX12_fresh0 33 = .ok (.aload_n 0, 1) := by decide +kernel
theorem dX12_fresh0_34 : decode cX12_fresh0 34 = .ok (.getfield 108, 3) := by decide +kernel
theorem dX12_fresh0_37 : decode cX12_fresh0 37 = .ok (.iconst 1, 1) := by decide +kernel
theorem dX12_fresh0_38 : decode cX12_fresh0 38 = .ok (.iload_n 1, 1) := by decide +kernel
theorem dX12_fresh0_39 : decode cX12_fresh0 39 = .ok (.iadd, 1) := by decide +kernel
theorem dX12_fresh0_40 : decode cX12_fresh0 40 = .ok (.aload_n 0, 1) := by decide +kernel
theorem dX12_fresh0_41 : decode cX12_fresh0 41 = .ok (.getfield 32, 3) := by decide +kernel
theorem dX12_fresh0_44 : decode cX12_fresh0 44 = .ok (.iload_n 1, 1) := by decide +kernel
theorem dX12_fresh0_45 : decode cX12_fresh0 45 = .ok (.iaload, 1) := by decide +kernel
theorem dX12_fresh0_46 : decode cX12_fresh0 46 = .ok (.iastore, 1) := by decide +kernel
theorem dX12_fresh0_47 : decode cX12_fresh0 47 = .ok (.aload_n 0, 1) := by decide +kernel
theorem dX12_fresh0_48 : decode cX12_fresh0 48 = .ok (.getfield 108, 3) := by decide +kernel
theorem dX12_fresh0_51 : decode cX12_fresh0 51 = .ok (.bipush 7, 2) := by decide +kernel
theorem dX12_fresh0_53 : decode cX12_fresh0 53 = .ok (.iload_n 1, 1) := by decide +kernel
theorem dX12_fresh0_54 : decode cX12_fresh0 54 = .ok (.iadd, 1) := by decide +kernel
theorem dX12_fresh0_55 : decode cX12_fresh0 55 = .ok (.aload_n 0, 1) := by decide +kernel
theorem dX12_fresh0_56 : decode cX12_fresh0 56 = .ok (.getfield 35, 3) := by decide +kernel
theorem dX12_fresh0_59 : decode cX12_fresh0 59 = .ok (.iload_n 1, 1) := by decide +kernel
theorem dX12_fresh0_60 : decode cX12_fresh0 60 = .ok (.iaload, 1) := by decide +kernel
theorem dX12_fresh0_61 : decode cX12_fresh0 61 = .ok (.iastore, 1) := by decide +kernel
theorem dX12_fresh0_62 : decode cX12_fresh0 62 = .ok (.aload_n 0, 1) := by decide +kernel
theorem dX12_fresh0_63 : decode cX12_fresh0 63 = .ok (.getfield 108, 3) := by decide +kernel
theorem dX12_fresh0_66 : decode cX12_fresh0 66 = .ok (.bipush 19, 2) := by decide +kernel
theorem dX12_fresh0_68 : decode cX12_fresh0 68 = .ok (.iload_n 1, 1) := by decide +kernel
theorem dX12_fresh0_69 : decode cX12_fresh0 69 = .ok (.iadd, 1) := by decide +kernel
theorem dX12_fresh0_70 : decode cX12_fresh0 70 = .ok (.aload_n 0, 1) := by decide +kernel
theorem dX12_fresh0_71 : decode cX12_fresh0 71 = .ok (.getfield 38, 3) := by decide +kernel
theorem dX12_fresh0_74 : decode cX12_fresh0 74 = .ok (.iload_n 1, 1) := by decide +kernel
theorem dX12_fresh0_75 : decode cX12_fresh0 75 = .ok (.iaload, 1) := by decide +kernel
theorem dX12_fresh0_76 : decode cX12_fresh0 76 = .ok (.iastore, 1) := by decide +kernel
theorem dX12_fresh0_77 : decode cX12_fresh0 77 = .ok (.aload_n 0, 1) := by decide +kernel
theorem dX12_fresh0_78 : decode cX12_fresh0 78 = .ok (.getfield 108, 3) := by decide +kernel
theorem dX12_fresh0_81 : decode cX12_fresh0 81 = .ok (.bipush 25, 2) := by decide +kernel
theorem dX12_fresh0_83 : decode cX12_fresh0 83 = .ok (.iload_n 1, 1) := by decide +kernel
theorem dX12_fresh0_84 : decode cX12_fresh0 84 = .ok (.iadd, 1) := by decide +kernel
theorem dX12_fresh0_85 : decode cX12_fresh0 85 = .ok (.iconst 1, 1) := by decide +kernel
theorem dX12_fresh0_86 : decode cX12_fresh0 86 = .ok (.aload_n 0, 1) := by decide +kernel
theorem dX12_fresh0_87 : decode cX12_fresh0 87 = .ok (.getfield 32, 3) := by decide +kernel
theorem dX12_fresh0_90 : decode cX12_fresh0 90 = .ok (.iload_n 1, 1) := by decide +kernel
theorem dX12_fresh0_91 : decode cX12_fresh0 91 = .ok (.iaload, 1) := by decide +kernel
theorem dX12_fresh0_92 : decode cX12_fresh0 92 = .ok (.ishl, 1) := by decide +kernel
theorem dX12_fresh0_93 : decode cX12_fresh0 93 = .ok (.iastore, 1) := by decide +kernel
theorem dX12_fresh0_94 : decode cX12_fresh0 94 = .ok (.iinc 1 1, 3) := by decide +kernel
theorem dX12_fresh0_97 : decode cX12_fresh0 97 = .ok (.goto (-74), 3) := by decide +kernel
theorem dX12_fresh0_100 : decode cX12_fresh0 100 = .ok (.return_, 1) := by decide +kernel
theorem dX12_land_0 : decode cX12_land 0 = .ok (.aload_n 0, 1) := by decide +kernel
theorem dX12_land_1 : decode cX12_land 1 = .ok (.iconst 0, 1) := by decide +kernel
theorem dX12_land_2 : decode cX12_land 2 = .ok (.putfield 129, 3) := by decide +kernel
theorem dX12_land_5 : decode cX12_land 5 = .ok (.aload_n 0, 1) := by decide +kernel
theorem dX12_land_6 : decode cX12_land 6 = .ok (.invokevirtual 327, 3) := by decide +kernel
theorem dX12_land_9 : decode cX12_land 9 = .ok (.ifCond .ne 8, 3) := by decide +kernel
theorem dX12_land_12 : decode cX12_land 12 = .ok (.aload_n 0, 1) := by decide +kernel
theorem dX12_land_13 : decode cX12_land 13 = .ok (.getfield 165, 3) := by decide +kernel
theorem dX12_land_16 : decode cX12_land 16 = .ok (.ireturn, 1) := by decide +kernel
theorem dX12_land_17 : decode cX12_land 17 = .ok (.aload_n 0, 1) := by decide +kernel
theorem dX12_land_18 : decode cX12_land 18 = .ok (.invokevirtual 330, 3) := by decide +kernel
theorem dX12_land_21 : decode cX12_land 21 = .ok (.aload_n 0, 1) := by decide +kernel
theorem dX12_land_22 : decode cX12_land 22 = .ok (.invokevirtual 333, 3) := by decide +kernel
theorem dX12_land_25 : decode cX12_land 25 = .ok (.aload_n 0, 1) := by decide +kernel
theorem dX12_land_26 : decode cX12_land 26 = .ok (.getfield 87, 3) := by decide +kernel
theorem dX12_land_29 : decode cX12_land 29 = .ok (.iconst 0, 1) := by decide +kernel
theorem dX12_land_30 : decode cX12_land 30 = .ok (.iconst 0, 1) := by decide +kernel
theorem dX12_land_31 : decode cX12_land 31 = .ok (.iastore, 1) := by decide +kernel
theorem dX12_land_32 : decode cX12_land 32 = .ok (.aload_n 0, 1) := by decide +kernel
theorem dX12_land_33 : decode cX12_land 33 = .ok (.getfield 99, 3) := by decide +kernel
theorem dX12_land_36 : decode cX12_land 36 = .ok (.iconst 0, 1) := by decide +kernel
theorem dX12_land_37 : decode cX12_land 37 = .ok (.iconst 0, 1) := by decide +kernel
theorem dX12_land_38 : decode cX12_land 38 = .ok (.iastore, 1) := by decide +kernel
theorem dX12_land_39 : decode cX12_land 39 = .ok (.aload_n 0, 1) := by decide +kernel
theorem dX12_land_40 : decode cX12_land 40 = .ok (.iconst 0, 1) := by decide +kernel
theorem dX12_land_41 : decode cX12_land 41 = .ok (.putfield 336, 3) := by decide +kernel
theorem dX12_land_44 : decode cX12_land 44 = .ok (.iconst 0, 1) := by decide +kernel
theorem dX12_land_45 : decode cX12_land 45 = .ok (.istore_n 1, 1) := by decide +kernel
theorem dX12_land_46 : decode cX12_land 46 = .ok (.iload_n 1, 1) := by decide +kernel
theorem dX12_land_47 : decode cX12_land 47 = .ok (.iconst 4, 1) := by decide +kernel
theorem dX12_land_48 : decode cX12_land 48 = .ok (.if_icmp .ge 16, 3) := by decide +kernel
theorem dX12_land_51 : decode cX12_land 51 = .ok (.aload_n 0, 1) := by decide +kernel
theorem dX12_land_52 : decode cX12_land 52 = .ok (.getfield 123, 3) := by decide +kernel
theorem dX12_land_55 : decode cX12_land 55 = .ok (.iload_n 1, 1) := by decide +kernel
theorem dX12_land_56 : decode cX12_land 56 = .ok (.iconst 0, 1) := by decide +kernel
theorem dX12_land_57 : decode cX12_land 57 = .ok (.bastore, 1) := by decide +kernel
theorem dX12_land_58 : decode cX12_land 58 = .ok (.iinc 1 1, 3) := by decide +kernel
theorem dX12_land_61 : decode cX12_land 61 = .ok (.goto (-15), 3) := by decide +kernel
theorem dX12_land_64 : decode cX12_land 64 = .ok (.iconst 0, 1) := by decide +kernel
theorem dX12_land_65 : decode cX12_land 65 = .ok (.ireturn, 1) := by decide +kernel
theorem dX12_journey_0 : decode cX12_journey 0 = .ok (.aload_n 0, 1) := by decide +kernel
theorem dX12_journey_1 : decode cX12_journey 1 = .ok (.iconst 0, 1) := by decide +kernel
theorem dX12_journey_2 : decode cX12_journey 2 = .ok (.putfield 129, 3) := by decide +kernel
theorem dX12_journey_5 : decode cX12_journey 5 = .ok (.aload_n 0, 1) := by decide +kernel
theorem dX12_journey_6 : decode cX12_journey 6 = .ok (.getfield 87, 3) := by decide +kernel
theorem dX12_journey_9 : decode cX12_journey 9 = .ok (.iconst 5, 1) := by decide +kernel
theorem dX12_journey_10 : decode cX12_journey 10 = .ok (.iconst 0, 1) := by decide +kernel
theorem dX12_journey_11 : decode cX12_journey 11 = .ok (.iastore, 1) := by decide +kernel
theorem dX12_journey_12 : decode cX12_journey 12 = .ok (.aload_n 0, 1) := by decide +kernel
theorem dX12_journey_13 : decode cX12_journey 13 = .ok (.iconst 0, 1) := by decide +kernel
theorem dX12_journey_14 : decode cX12_journey 14 = .ok (.putfield 256, 3) := by decide +kernel
theorem dX12_journey_17 : decode cX12_journey 17 = .ok (.aload_n 0, 1) := by decide +kernel
theorem dX12_journey_18 : decode cX12_journey 18 = .ok (.invokevirtual 298, 3) := by decide +kernel
theorem dX12_journey_21 : decode cX12_journey 21 = .ok (.aload_n 0, 1) := by decide +kernel
theorem dX12_journey_22 : decode cX12_journey 22 = .ok (.getfield 154, 3) := by decide +kernel
theorem dX12_journey_25 : decode cX12_journey 25 = .ok (.ifCond .eq 15, 3) := by decide +kernel
theorem dX12_journey_28 : decode cX12_journey 28 = .ok (.aload_n 0, 1) := by decide +kernel
theorem dX12_journey_29 : decode cX12_journey 29 = .ok (.invokevirtual 339, 3) := by decide +kernel
theorem dX12_journey_32 : decode cX12_journey 32 = .ok (.ifCond .ne (-11), 3) := by decide +kernel
theorem dX12_journey_35 : decode cX12_journey 35 = .ok (.aload_n 0, 1) := by decide +kernel
theorem dX12_journey_36 : decode cX12_journey 36 = .ok (.getfield 165, 3) := by decide +kernel
theorem dX12_journey_39 : decode cX12_journey 39 = .ok (.ireturn, 1) := by decide +kernel
theorem dX12_journey_40 : decode cX12_journey 40 = .ok (.aload_n 0, 1) := by decide +kernel
theorem dX12_journey_41 : decode cX12_journey 41 = .ok (.iconst 5, 1) := by decide +kernel
theorem dX12_journey_42 : decode cX12_journey 42 = .ok (.iconst 0, 1) := by decide +kernel
theorem dX12_journey_43 : decode cX12_journey 43 = .ok (.invokevirtual 342, 3) := by decide +kernel
theorem dX12_journey_46 : decode cX12_journey 46 = .ok (.iconst 0, 1) := by decide +kernel
theorem dX12_journey_47 : decode cX12_journey 47 = .ok (.ireturn, 1) := by decide +kernel
theorem dX12_isTown_0 : decode cX12_isTown 0 = .ok (.iload_n 1, 1) := by decide +kernel
theorem dX12_isTown_1 : decode cX12_isTown 1 = .ok (.ifCond .lt 17, 3) := by decide +kernel
theorem dX12_isTown_4 : decode cX12_isTown 4 = .ok (.iload_n 1, 1) := by decide +kernel
theorem dX12_isTown_5 : decode cX12_isTown 5 = .ok (.aload_n 0, 1) := by decide +kernel
theorem dX12_isTown_6 : decode cX12_isTown 6 = .ok (.getfield 13, 3) := by decide +kernel
theorem dX12_isTown_9 : decode cX12_isTown 9 = .ok (.iconst 0, 1) := by decide +kernel
theorem dX12_isTown_10 : decode cX12_isTown 10 = .ok (.iaload, 1) := by decide +kernel
theorem dX12_isTown_11 : decode cX12_isTown 11 = .ok (.if_icmp .ge 7, 3) := by decide +kernel
theorem dX12_isTown_14 : decode cX12_isTown 14 = .ok (.iconst 1, 1) := by decide +kernel
theorem dX12_isTown_15 : decode cX12_isTown 15 = .ok (.goto 4, 3) := by decide +kernel
theorem dX12_isTown_18 : decode cX12_isTown 18 = .ok (.iconst 0, 1) := by decide +kernel
theorem dX12_isTown_19 : decode cX12_isTown 19 = .ok (.ireturn, 1) := by decide +kernel
theorem dX12_isPerson_0 : decode cX12_isPerson 0 = .ok (.iload_n 1, 1) := by decide +kernel
theorem dX12_isPerson_1 : decode cX12_isPerson 1 = .ok (.ifCond .lt 17, 3) := by decide +kernel
theorem dX12_isPerson_4 : decode cX12_isPerson 4 = .ok (.iload_n 1, 1) := by decide +kernel
theorem dX12_isPerson_5 : decode cX12_isPerson 5 = .ok (.aload_n 0, 1) := by decide +kernel
theorem dX12_isPerson_6 : decode cX12_isPerson 6 = .ok (.getfield 13, 3) := by decide +kernel
theorem dX12_isPerson_9 : decode cX12_isPerson 9 = .ok (.iconst 1, 1) := by decide +kernel
theorem dX12_isPerson_10 : decode cX12_isPerson 10 = .ok (.iaload, 1) := by decide +kernel
theorem dX12_isPerson_11 : decode cX12_isPerson 11 = .ok (.if_icmp .ge 7, 3) := by decide +kernel
theorem dX12_isPerson_14 : decode cX12_isPerson 14 = .ok (.iconst 1, 1) := by decide +kernel
theorem dX12_isPerson_15 : decode cX12_isPerson 15 = .ok (.goto 4, 3) := by decide +kernel
theorem dX12_isPerson_18 : decode cX12_isPerson 18 = .ok (.iconst 0, 1) := by decide +kernel
theorem dX12_isPerson_19 : decode cX12_isPerson 19 = .ok (.ireturn, 1) := by decide +kernel
theorem dX12_readsBeard_0 : decode cX12_readsBeard 0 = .ok (.aload_n 0, 1) := by decide +kernel
theorem dX12_readsBeard_1 : decode cX12_readsBeard 1 = .ok (.getfield 44, 3) := by decide +kernel
theorem dX12_readsBeard_4 : decode cX12_readsBeard 4 = .ok (.iconst 0, 1) := by decide +kernel
theorem dX12_readsBeard_5 : decode cX12_readsBeard 5 = .ok (.iaload, 1) := by decide +kernel
theorem dX12_readsBeard_6 : decode cX12_readsBeard 6 = .ok (.aload_n 0, 1) := by decide +kernel
theorem dX12_readsBeard_7 : decode cX12_readsBeard 7 = .ok (.getfield 41, 3) := by decide +kernel
theorem dX12_readsBeard_10 : decode cX12_readsBeard 10 = .ok (.iconst 0, 1) := by decide +kernel
theorem dX12_readsBeard_11 : decode cX12_readsBeard 11 = .ok (.iaload, 1) := by decide +kernel
theorem dX12_readsBeard_12 : decode cX12_readsBeard 12 = .ok (.if_icmp .ne 14, 3) := by decide +kernel
theorem dX12_readsBeard_15 : decode cX12_readsBeard 15 = .ok (.iload_n 1, 1) := by decide +kernel
theorem dX12_readsBeard_16 : decode cX12_readsBeard 16 = .ok (.iload_n 3, 1) := by decide +kernel
theorem dX12_readsBeard_17 : decode cX12_readsBeard 17 = .ok (.if_icmp .lt 7, 3) := by decide +kernel
theorem dX12_readsBeard_20 : decode cX12_readsBeard 20 = .ok (.iconst 1, 1) := by decide +kernel
theorem dX12_readsBeard_21 : decode cX12_readsBeard 21 = .ok (.goto 4, 3) := by decide +kernel
theorem dX12_readsBeard_24 : decode cX12_readsBeard 24 = .ok (.iconst 0, 1) := by decide +kernel
theorem dX12_readsBeard_25 : decode cX12_readsBeard 25 = .ok (.ireturn, 1) := by decide +kernel
theorem dX12_readsBeard_26 : decode cX12_readsBeard 26 = .ok (.aload_n 0, 1) := by decide +kernel
theorem dX12_readsBeard_27 : decode cX12_readsBeard 27 = .ok (.getfield 84, 3) := by decide +kernel
theorem dX12_readsBeard_30 : decode cX12_readsBeard 30 = .ok (.iconst 1, 1) := by decide +kernel
theorem dX12_readsBeard_31 : decode cX12_readsBeard 31 = .ok (.iload_n 1, 1) := by decide +kernel
theorem dX12_readsBeard_32 : decode cX12_readsBeard 32 = .ok (.iastore, 1) := by decide +kernel
theorem dX12_readsBeard_33 : decode cX12_readsBeard 33 = .ok (.aload_n 0, 1) := by decide +kernel
theorem dX12_readsBeard_34 : decode cX12_readsBeard 34 = .ok (.getfield 84, 3) := by decide +kernel
theorem dX12_readsBeard_37 : decode cX12_readsBeard 37 = .ok (.iconst 2, 1) := by decide +kernel
theorem dX12_readsBeard_38 : decode cX12_readsBeard 38 = .ok (.iload_n 2, 1) := by decide +kernel
theorem dX12_readsBeard_39 : decode cX12_readsBeard 39 = .ok (.iastore, 1) := by decide +kernel
theorem dX12_readsBeard_40 : decode cX12_readsBeard 40 = .ok (.aload_n 0, 1) := by decide +kernel
theorem dX12_readsBeard_41 : decode cX12_readsBeard 41 = .ok (.getfield 84, 3) := by decide +kernel
theorem dX12_readsBeard_44 : decode cX12_readsBeard 44 = .ok (.iconst 3, 1) := by decide +kernel
theorem dX12_readsBeard_45 : decode cX12_readsBeard 45 = .ok (.iload_n 3, 1) := by decide +kernel
theorem dX12_readsBeard_46 : decode cX12_readsBeard 46 = .ok (.iastore, 1) := by decide +kernel
theorem dX12_readsBeard_47 : decode cX12_readsBeard 47 = .ok (.aload_n 0, 1) := by decide +kernel
theorem dX12_readsBeard_48 : decode cX12_readsBeard 48 = .ok (.getfield 84, 3) := by decide +kernel
theorem dX12_readsBeard_51 : decode cX12_readsBeard 51 = .ok (.iconst 4, 1) := by decide +kernel
theorem dX12_readsBeard_52 : decode cX12_readsBeard 52 = .ok (.aload_n 0, 1) := by decide +kernel
theorem dX12_readsBeard_53 : decode cX12_readsBeard 53 = .ok (.getfield 108, 3) := by decide +kernel
theorem dX12_readsBeard_56 : decode cX12_readsBeard 56 = .ok (.iconst 0, 1) := by decide +kernel
theorem dX12_readsBeard_57 : decode cX12_readsBeard 57 = .ok (.iaload, 1) := by decide +kernel
theorem dX12_readsBeard_58 : decode cX12_readsBeard 58 = .ok (.iastore, 1) := by decide +kernel
theorem dX12_readsBeard_59 : decode cX12_readsBeard 59 = .ok (.aload_n 0, 1) := by decide +kernel
theorem dX12_readsBeard_60 : decode cX12_readsBeard 60 = .ok (.iconst 0, 1) := by decide +kernel
theorem dX12_readsBeard_61 : decode cX12_readsBeard 61 = .ok (.invokevirtual 346, 3) := by decide +kernel
theorem dX12_readsBeard_64 : decode cX12_readsBeard 64 = .ok (.ifCond .eq 7, 3) := by decide +kernel
theorem dX12_readsBeard_67 : decode cX12_readsBeard 67 = .ok (.iconst 1, 1) := by decide +kernel
theorem dX12_readsBeard_68 : decode cX12_readsBeard 68 = .ok (.goto 4, 3) := by decide +kernel
theorem dX12_readsBeard_71 : decode cX12_readsBeard 71 = .ok (.iconst 0, 1) := by decide +kernel
theorem dX12_readsBeard_72 : decode cX12_readsBeard 72 = .ok (.ireturn, 1) := by decide +kernel
