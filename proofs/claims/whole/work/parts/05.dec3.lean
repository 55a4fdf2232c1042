theorem dX7_nextToken_178 : decode cX7_nextToken 178 = .ok (.aload_n 0, 1) := by decide +kernel
theorem dX7_nextToken_179 : decode cX7_nextToken 179 = .ok (.dup, 1) := by decide +kernel
theorem dX7_nextToken_180 : decode cX7_nextToken 180 = .ok (.getfield 75, 3) := by decide +kernel
theorem dX7_nextToken_183 : decode cX7_nextToken 183 = .ok (.iconst 1, 1) := by decide +kernel
theorem dX7_nextToken_184 : decode cX7_nextToken 184 = .ok (.iadd, 1) := by decide +kernel
theorem dX7_nextToken_185 : decode cX7_nextToken 185 = .ok (.putfield 75, 3) := by decide +kernel
theorem dX7_nextToken_188 : decode cX7_nextToken 188 = .ok (.goto (-87), 3) := by decide +kernel
theorem dX7_nextToken_191 : decode cX7_nextToken 191 = .ok (.aload_n 0, 1) := by decide +kernel
theorem dX7_nextToken_192 : decode cX7_nextToken 192 = .ok (.aload_n 0, 1) := by decide +kernel
theorem dX7_nextToken_193 : decode cX7_nextToken 193 = .ok (.getfield 75, 3) := by decide +kernel
theorem dX7_nextToken_196 : decode cX7_nextToken 196 = .ok (.aload_n 0, 1) := by decide +kernel
theorem dX7_nextToken_197 : decode cX7_nextToken 197 = .ok (.getfield 78, 3) := by decide +kernel
theorem dX7_nextToken_200 : decode cX7_nextToken 200 = .ok (.isub, 1) := by decide +kernel
theorem dX7_nextToken_201 : decode cX7_nextToken 201 = .ok (.bipush 9, 2) := by decide +kernel
theorem dX7_nextToken_203 : decode cX7_nextToken 203 = .ok (.if_icmp .le 9, 3) := by decide +kernel
theorem dX7_nextToken_206 : decode cX7_nextToken 206 = .ok (.ldc2_w 97, 3) := by decide +kernel
theorem dX7_nextToken_209 : decode cX7_nextToken 209 = .ok (.goto 7, 3) := by decide +kernel
theorem dX7_nextToken_212 : decode cX7_nextToken 212 = .ok (.aload_n 0, 1) := by decide +kernel
theorem dX7_nextToken_213 : decode cX7_nextToken 213 = .ok (.getfield 89, 3) := by decide +kernel
theorem dX7_nextToken_216 : decode cX7_nextToken 216 = .ok (.putfield 89, 3) := by decide +kernel
theorem dX7_nextToken_219 : decode cX7_nextToken 219 = .ok (.goto 175, 3) := by decide +kernel
theorem dX7_nextToken_222 : decode cX7_nextToken 222 = .ok (.aload_n 0, 1) := by decide +kernel
theorem dX7_nextToken_223 : decode cX7_nextToken 223 = .ok (.getfield 23, 3) := by decide +kernel
theorem dX7_nextToken_226 : decode cX7_nextToken 226 = .ok (.aload_n 0, 1) := by decide +kernel
theorem dX7_nextToken_227 : decode cX7_nextToken 227 = .ok (.getfield 75, 3) := by decide +kernel
theorem dX7_nextToken_230 : decode cX7_nextToken 230 = .ok (.iaload, 1) := by decide +kernel
theorem dX7_nextToken_231 : decode cX7_nextToken 231 = .ok (.bipush 48, 2) := by decide +kernel
theorem dX7_nextToken_233 : decode cX7_nextToken 233 = .ok (.bipush 57, 2) := by decide +kernel
theorem dX7_nextToken_235 : decode cX7_nextToken 235 = .ok (.invokestatic 65, 3) := by decide +kernel
theorem dX7_nextToken_238 : decode cX7_nextToken 238 = .ok (.ifCond .eq 119, 3) := by decide +kernel
theorem dX7_nextToken_241 : decode cX7_nextToken 241 = .ok (.aload_n 0, 1) := by decide +kernel
theorem dX7_nextToken_242 : decode cX7_nextToken 242 = .ok (.getfield 75, 3) := by decide +kernel
theorem dX7_nextToken_245 : decode cX7_nextToken 245 = .ok (.aload_n 0, 1) := by decide +kernel
theorem dX7_nextToken_246 : decode cX7_nextToken 246 = .ok (.getfield 69, 3) := by decide +kernel
theorem dX7_nextToken_249 : decode cX7_nextToken 249 = .ok (.if_icmp .ge 84, 3) := by decide +kernel
theorem dX7_nextToken_252 : decode cX7_nextToken 252 = .ok (.aload_n 0, 1) := by decide +kernel
theorem dX7_nextToken_253 : decode cX7_nextToken 253 = .ok (.getfield 23, 3) := by decide +kernel
theorem dX7_nextToken_256 : decode cX7_nextToken 256 = .ok (.aload_n 0, 1) := by decide +kernel
theorem dX7_nextToken_257 : decode cX7_nextToken 257 = .ok (.getfield 75, 3) := by decide +kernel
theorem dX7_nextToken_260 : decode cX7_nextToken 260 = .ok (.iaload, 1) := by decide +kernel
theorem dX7_nextToken_261 : decode cX7_nextToken 261 = .ok (.bipush 48, 2) := by decide +kernel
theorem dX7_nextToken_263 : decode cX7_nextToken 263 = .ok (.bipush 57, 2) := by decide +kernel
theorem dX7_nextToken_265 : decode cX7_nextToken 265 = .ok (.invokestatic 65, 3) := by decide +kernel
theorem dX7_nextToken_268 : decode cX7_nextToken 268 = .ok (.ifCond .eq 65, 3) := by decide +kernel
theorem dX7_nextToken_271 : decode cX7_nextToken 271 = .ok (.aload_n 0, 1) := by decide +kernel
theorem dX7_nextToken_272 : decode cX7_nextToken 272 = .ok (.aload_n 0, 1) := by decide +kernel
theorem dX7_nextToken_273 : decode cX7_nextToken 273 = .ok (.getfield 81, 3) := by decide +kernel
theorem dX7_nextToken_276 : decode cX7_nextToken 276 = .ok (.iconst 2, 1) := by decide +kernel
theorem dX7_nextToken_277 : decode cX7_nextToken 277 = .ok (.if_icmp .ge 26, 3) := by decide +kernel
theorem dX7_nextToken_280 : decode cX7_nextToken 280 = .ok (.bipush 10, 2) := by decide +kernel
theorem dX7_nextToken_282 : decode cX7_nextToken 282 = .ok (.aload_n 0, 1) := by decide +kernel
theorem dX7_nextToken_283 : decode cX7_nextToken 283 = .ok (.getfield 84, 3) := by decide +kernel
theorem dX7_nextToken_286 : decode cX7_nextToken 286 = .ok (.imul, 1) := by decide +kernel
theorem dX7_nextToken_287 : decode cX7_nextToken 287 = .ok (.aload_n 0, 1) := by decide +kernel
theorem dX7_nextToken_288 : decode cX7_nextToken 288 = .ok (.getfield 23, 3) := by decide +kernel
theorem dX7_nextToken_291 : decode cX7_nextToken 291 = .ok (.aload_n 0, 1) := by decide +kernel
theorem dX7_nextToken_292 : decode cX7_nextToken 292 = .ok (.getfield 75, 3) := by decide +kernel
theorem dX7_nextToken_295 : decode cX7_nextToken 295 = .ok (.iaload, 1) := by decide +kernel
theorem dX7_nextToken_296 : decode cX7_nextToken 296 = .ok (.iadd, 1) := by decide +kernel
theorem dX7_nextToken_297 : decode cX7_nextToken 297 = .ok (.bipush 48, 2) := by decide +kernel
theorem dX7_nextToken_299 : decode cX7_nextToken 299 = .ok (.isub, 1) := by decide +kernel
theorem dX7_nextToken_300 : decode cX7_nextToken 300 = .ok (.goto 7, 3) := by decide +kernel
theorem dX7_nextToken_303 : decode cX7_nextToken 303 = .ok (.aload_n 0, 1) := by decide +kernel
theorem dX7_nextToken_304 : decode cX7_nextToken 304 = .ok (.getfield 84, 3) := by decide +kernel
theorem dX7_nextToken_307 : decode cX7_nextToken 307 = .ok (.putfield 84, 3) := by decide +kernel
theorem dX7_nextToken_310 : decode cX7_nextToken 310 = .ok (.aload_n 0, 1) := by decide +kernel
theorem dX7_nextToken_311 : decode cX7_nextToken 311 = .ok (.dup, 1) := by decide +kernel
theorem dX7_nextToken_312 : decode cX7_nextToken 312 = .ok (.getfield 81, 3) := by decide +kernel
theorem dX7_nextToken_315 : decode cX7_nextToken 315 = .ok (.iconst 1, 1) := by decide +kernel
theorem dX7_nextToken_316 : decode cX7_nextToken 316 = .ok (.iadd, 1) := by decide +kernel
theorem dX7_nextToken_317 : decode cX7_nextToken 317 = .ok (.putfield 81, 3) := by decide +kernel
theorem dX7_nextToken_320 : decode cX7_nextToken 320 = .ok (.aload_n 0, 1) := by decide +kernel
theorem dX7_nextToken_321 : decode cX7_nextToken 321 = .ok (.dup, 1) := by decide +kernel
theorem dX7_nextToken_322 : decode cX7_nextToken 322 = .ok (.getfield 75, 3) := by decide +kernel
theorem dX7_nextToken_325 : decode cX7_nextToken 325 = .ok (.iconst 1, 1) := by decide +kernel
theorem dX7_nextToken_326 : decode cX7_nextToken 326 = .ok (.iadd, 1) := by decide +kernel
theorem dX7_nextToken_327 : decode cX7_nextToken 327 = .ok (.putfield 75, 3) := by decide +kernel
theorem dX7_nextToken_330 : decode cX7_nextToken 330 = .ok (.goto (-89), 3) := by decide +kernel
theorem dX7_nextToken_333 : decode cX7_nextToken 333 = .ok (.aload_n 0, 1) := by decide +kernel
theorem dX7_nextToken_334 : decode cX7_nextToken 334 = .ok (.aload_n 0, 1) := by decide +kernel
theorem dX7_nextToken_335 : decode cX7_nextToken 335 = .ok (.getfield 81, 3) := by decide +kernel
theorem dX7_nextToken_338 : decode cX7_nextToken 338 = .ok (.iconst 2, 1) := by decide +kernel
theorem dX7_nextToken_339 : decode cX7_nextToken 339 = .ok (.if_icmp .le 9, 3) := by decide +kernel
theorem dX7_nextToken_342 : decode cX7_nextToken 342 = .ok (.ldc2_w 97, 3) := by decide +kernel
theorem dX7_nextToken_345 : decode cX7_nextToken 345 = .ok (.goto 6, 3) := by decide +kernel
theorem dX7_nextToken_348 : decode cX7_nextToken 348 = .ok (.ldc2_w 99, 3) := by decide +kernel
theorem dX7_nextToken_351 : decode cX7_nextToken 351 = .ok (.putfield 89, 3) := by decide +kernel
theorem dX7_nextToken_354 : decode cX7_nextToken 354 = .ok (.goto 40, 3) := by decide +kernel
theorem dX7_nextToken_357 : decode cX7_nextToken 357 = .ok (.aload_n 0, 1) := by decide +kernel
theorem dX7_nextToken_358 : decode cX7_nextToken 358 = .ok (.aload_n 0, 1) := by decide +kernel
theorem dX7_nextToken_359 : decode cX7_nextToken 359 = .ok (.getfield 23, 3) := by decide +kernel
theorem dX7_nextToken_362 : decode cX7_nextToken 362 = .ok (.aload_n 0, 1) := by decide +kernel
theorem dX7_nextToken_363 : decode cX7_nextToken 363 = .ok (.getfield 75, 3) := by decide +kernel
theorem dX7_nextToken_366 : decode cX7_nextToken 366 = .ok (.iaload, 1) := by decide +kernel
theorem dX7_nextToken_367 : decode cX7_nextToken 367 = .ok (.bipush 59, 2) := by decide +kernel
theorem dX7_nextToken_369 : decode cX7_nextToken 369 = .ok (.if_icmp .ne 9, 3) := by decide +kernel
theorem dX7_nextToken_372 : decode cX7_nextToken 372 = .ok (.ldc2_w 101, 3) := by decide +kernel
theorem dX7_nextToken_375 : decode cX7_nextToken 375 = .ok (.goto 6, 3) := by decide +kernel
theorem dX7_nextToken_378 : decode cX7_nextToken 378 = .ok (.ldc2_w 97, 3) := by decide +kernel
theorem dX7_nextToken_381 : decode cX7_nextToken 381 = .ok (.putfield 89, 3) := by decide +kernel
theorem dX7_nextToken_384 : decode cX7_nextToken 384 = .ok (.aload_n 0, 1) := by decide +kernel
theorem dX7_nextToken_385 : decode cX7_nextToken 385 = .ok (.dup, 1) := by decide +kernel
theorem dX7_nextToken_386 : decode cX7_nextToken 386 = .ok (.getfield 75, 3) := by decide +kernel
theorem dX7_nextToken_389 : decode cX7_nextToken 389 = .ok (.iconst 1, 1) := by decide +kernel
theorem dX7_nextToken_390 : decode cX7_nextToken 390 = .ok (.iadd, 1) := by decide +kernel
theorem dX7_nextToken_391 : decode cX7_nextToken 391 = .ok (.putfield 75, 3) := by decide +kernel
theorem dX7_nextToken_394 : decode cX7_nextToken 394 = .ok (.return_, 1) := by decide +kernel
theorem dX7_fails_0 : decode cX7_fails 0 = .ok (.aload_n 0, 1) := by decide +kernel
theorem dX7_fails_1 : decode cX7_fails 1 = .ok (.aload_n 0, 1) := by decide +kernel
theorem dX7_fails_2 : decode cX7_fails 2 = .ok (.getfield 78, 3) := by decide +kernel
theorem dX7_fails_5 : decode cX7_fails 5 = .ok (.putfield 103, 3) := by decide +kernel
theorem dX7_fails_8 : decode cX7_fails 8 = .ok (.iconst 0, 1) := by decide +kernel
theorem dX7_fails_9 : decode cX7_fails 9 = .ok (.ireturn, 1) := by decide +kernel
theorem dX7_isNumber_0 : decode cX7_isNumber 0 = .ok (.aload_n 0, 1) := by decide +kernel
theorem dX7_isNumber_1 : decode cX7_isNumber 1 = .ok (.invokevirtual 106, 3) := by decide +kernel
theorem dX7_isNumber_4 : decode cX7_isNumber 4 = .ok (.aload_n 0, 1) := by decide +kernel
theorem dX7_isNumber_5 : decode cX7_isNumber 5 = .ok (.getfield 89, 3) := by decide +kernel
theorem dX7_isNumber_8 : decode cX7_isNumber 8 = .ok (.ldc2_w 99, 3) := by decide +kernel
theorem dX7_isNumber_11 : decode cX7_isNumber 11 = .ok (.lcmp, 1) := by decide +kernel
theorem dX7_isNumber_12 : decode cX7_isNumber 12 = .ok (.ifCond .ne 11, 3) := by decide +kernel
theorem dX7_isNumber_15 : decode cX7_isNumber 15 = .ok (.aload_n 0, 1) := by decide +kernel
theorem dX7_isNumber_16 : decode cX7_isNumber 16 = .ok (.getfield 84, 3) := by decide +kernel
theorem dX7_isNumber_19 : decode cX7_isNumber 19 = .ok (.iload_n 2, 1) := by decide +kernel
theorem dX7_isNumber_20 : decode cX7_isNumber 20 = .ok (.if_icmp .le 8, 3) := by decide +kernel
theorem dX7_isNumber_23 : decode cX7_isNumber 23 = .ok (.aload_n 0, 1) := by decide +kernel
theorem dX7_isNumber_24 : decode cX7_isNumber 24 = .ok (.invokevirtual 109, 3) := by decide +kernel
theorem dX7_isNumber_27 : decode cX7_isNumber 27 = .ok (.ireturn, 1) := by decide +kernel
theorem dX7_isNumber_28 : decode cX7_isNumber 28 = .ok (.aload_n 0, 1) := by decide +kernel
theorem dX7_isNumber_29 : decode cX7_isNumber 29 = .ok (.getfield 26, 3) := by decide +kernel
theorem dX7_isNumber_32 : decode cX7_isNumber 32 = .ok (.iload_n 1, 1) := by decide +kernel
theorem dX7_isNumber_33 : decode cX7_isNumber 33 = .ok (.aload_n 0, 1) := by decide +kernel
theorem dX7_isNumber_34 : decode cX7_isNumber 34 = .ok (.getfield 84, 3) := by decide +kernel
theorem dX7_isNumber_37 : decode cX7_isNumber 37 = .ok (.iastore, 1) := by decide +kernel
theorem dX7_isNumber_38 : decode cX7_isNumber 38 = .ok (.iconst 1, 1) := by decide +kernel
theorem dX7_isNumber_39 : decode cX7_isNumber 39 = .ok (.ireturn, 1) := by decide +kernel
theorem dX7_arePair_0 : decode cX7_arePair 0 = .ok (.aload_n 0, 1) := by decide +kernel
theorem dX7_arePair_1 : decode cX7_arePair 1 = .ok (.iload_n 1, 1) := by decide +kernel
theorem dX7_arePair_2 : decode cX7_arePair 2 = .ok (.iconst 1, 1) := by decide +kernel
theorem dX7_arePair_3 : decode cX7_arePair 3 = .ok (.iadd, 1) := by decide +kernel
theorem dX7_arePair_4 : decode cX7_arePair 4 = .ok (.bipush 11, 2) := by decide +kernel
theorem dX7_arePair_6 : decode cX7_arePair 6 = .ok (.invokevirtual 113, 3) := by decide +kernel
theorem dX7_arePair_9 : decode cX7_arePair 9 = .ok (.ifCond .eq 15, 3) := by decide +kernel
theorem dX7_arePair_12 : decode cX7_arePair 12 = .ok (.aload_n 0, 1) := by decide +kernel
theorem dX7_arePair_13 : decode cX7_arePair 13 = .ok (.iload_n 1, 1) := by decide +kernel
theorem dX7_arePair_14 : decode cX7_arePair 14 = .ok (.iconst 2, 1) := by decide +kernel
theorem dX7_arePair_15 : decode cX7_arePair 15 = .ok (.iadd, 1) := by decide +kernel
theorem dX7_arePair_16 : decode cX7_arePair 16 = .ok (.bipush 11, 2) := by decide +kernel
theorem dX7_arePair_18 : decode cX7_arePair 18 = .ok (.invokevirtual 113, 3) := by decide +kernel
theorem dX7_arePair_21 : decode cX7_arePair 21 = .ok (.ifCond .ne 5, 3) := by decide +kernel
theorem dX7_arePair_24 : decode cX7_arePair 24 = .ok (.iconst 0, 1) := by decide +kernel
theorem dX7_arePair_25 : decode cX7_arePair 25 = .ok (.ireturn, 1) := by decide +kernel
theorem dX7_arePair_26 : decode cX7_arePair 26 = .ok (.aload_n 0, 1) := by decide +kernel
theorem dX7_arePair_27 : decode cX7_arePair 27 = .ok (.aload_n 0, 1) := by decide +kernel
theorem dX7_arePair_28 : decode cX7_arePair 28 = .ok (.getfield 26, 3) := by decide +kernel
theorem dX7_arePair_31 : decode cX7_arePair 31 = .ok (.iload_n 1, 1) := by decide +kernel
theorem dX7_arePair_32 : decode cX7_arePair 32 = .ok (.iconst 1, 1) := by decide +kernel
theorem dX7_arePair_33 : decode cX7_arePair 33 = .ok (.iadd, 1) := by decide +kernel
theorem dX7_arePair_34 : decode cX7_arePair 34 = .ok (.iaload, 1) := by decide +kernel
theorem dX7_arePair_35 : decode cX7_arePair 35 = .ok (.aload_n 0, 1) := by decide +kernel
theorem dX7_arePair_36 : decode cX7_arePair 36 = .ok (.getfield 26, 3) := by decide +kernel
theorem dX7_arePair_39 : decode cX7_arePair 39 = .ok (.iload_n 1, 1) := by decide +kernel
theorem dX7_arePair_40 : decode cX7_arePair 40 = .ok (.iconst 2, 1) := by decide +kernel
theorem dX7_arePair_41 : decode cX7_arePair 41 = .ok (.iadd, 1) := by decide +kernel
theorem dX7_arePair_42 : decode cX7_arePair 42 = .ok (.iaload, 1) := by decide +kernel
theorem dX7_arePair_43 : decode cX7_arePair 43 = .ok (.invokevirtual 117, 3) := by decide +kernel
theorem dX7_arePair_46 : decode cX7_arePair 46 = .ok (.iconst (-1), 1) := by decide +kernel
theorem dX7_arePair_47 : decode cX7_arePair 47 = .ok (.if_icmp .ne 10, 3) := by decide +kernel
theorem dX7_arePair_50 : decode cX7_arePair 50 = .ok (.aload_n 0, 1) := by decide +kernel
theorem dX7_arePair_51 : decode cX7_arePair 51 = .ok (.invokevirtual 109, 3) := by decide +kernel
theorem dX7_arePair_54 : decode cX7_arePair 54 = .ok (.ifCond .eq 7, 3) := by decide +kernel
theorem dX7_arePair_57 : decode cX7_arePair 57 = .ok (.iconst 1, 1) := by decide +kernel
theorem dX7_arePair_58 : decode cX7_arePair 58 = .ok (.goto 4, 3) := by decide +kernel
theorem dX7_arePair_61 : decode cX7_arePair 61 = .ok (.iconst 0, 1) := by decide +kernel
theorem dX7_arePair_62 : decode cX7_arePair 62 = .ok (.ireturn, 1) := by decide +kernel
theorem dX7_isLine_0 : decode cX7_isLine 0 = .ok (.aload_n 0, 1) := by decide +kernel
theorem dX7_isLine_1 : decode cX7_isLine 1 = .ok (.invokevirtual 106, 3) := by decide +kernel
theorem dX7_isLine_4 : decode cX7_isLine 4 = .ok (.aload_n 0, 1) := by decide +kernel
theorem dX7_isLine_5 : decode cX7_isLine 5 = .ok (.getfield 89, 3) := by decide +kernel
theorem dX7_isLine_8 : decode cX7_isLine 8 = .ok (.ldc2_w 121, 3) := by decide +kernel
theorem dX7_isLine_11 : decode cX7_isLine 11 = .ok (.lcmp, 1) := by decide +kernel
theorem dX7_isLine_12 : decode cX7_isLine 12 = .ok (.ifCond .ne 7, 3) := by decide +kernel
theorem dX7_isLine_15 : decode cX7_isLine 15 = .ok (.iconst 0, 1) := by decide +kernel
theorem dX7_isLine_16 : decode cX7_isLine 16 = .ok (.goto 49, 3) := by decide +kernel
theorem dX7_isLine_19 : decode cX7_isLine 19 = .ok (.aload_n 0, 1) := by decide +kernel
theorem dX7_isLine_20 : decode cX7_isLine 20 = .ok (.getfield 89, 3) := by decide +kernel
theorem dX7_isLine_23 : decode cX7_isLine 23 = .ok (.ldc2_w 123, 3) := by decide +kernel
theorem dX7_isLine_26 : decode cX7_isLine 26 = .ok (.lcmp, 1) := by decide +kernel
theorem dX7_isLine_27 : decode cX7_isLine 27 = .ok (.ifCond .ne 7, 3) := by decide +kernel
theorem dX7_isLine_30 : decode cX7_isLine 30 = .ok (.iconst 1, 1) := by decide +kernel
theorem dX7_isLine_31 : decode cX7_isLine 31 = .ok (.goto 34, 3) := by decide +kernel
theorem dX7_isLine_34 : decode cX7_isLine 34 = .ok (.aload_n 0, 1) := by decide +kernel
theorem dX7_isLine_35 : decode cX7_isLine 35 = .ok (.getfield 89, 3) := by decide +kernel
theorem dX7_isLine_38 : decode cX7_isLine 38 = .ok (.ldc2_w 125, 3) := by decide +kernel
theorem dX7_isLine_41 : decode cX7_isLine 41 = .ok (.lcmp, 1) := by decide +kernel
theorem dX7_isLine_42 : decode cX7_isLine 42 = .ok (.ifCond .ne 7, 3) := by decide +kernel
theorem dX7_isLine_45 : decode cX7_isLine 45 = .ok (.iconst 2, 1) := by decide +kernel
theorem dX7_isLine_46 : decode cX7_isLine 46 = .ok (.goto 19, 3) := by decide +kernel
theorem dX7_isLine_49 : decode cX7_isLine 49 = .ok (.aload_n 0, 1) := by decide +kernel
theorem dX7_isLine_50 : decode cX7_isLine 50 = .ok (.getfield 89, 3) := by decide +kernel
theorem dX7_isLine_53 : decode cX7_isLine 53 = .ok (.ldc2_w 127, 3) := by decide +kernel
theorem dX7_isLine_56 : decode cX7_isLine 56 = .ok (.lcmp, 1) := by decide +kernel
theorem dX7_isLine_57 : decode cX7_isLine 57 = .ok (.ifCond .ne 7, 3) := by decide +kernel
theorem dX7_isLine_60 : decode cX7_isLine 60 = .ok (.iconst 3, 1) := by decide +kernel
theorem dX7_isLine_61 : decode cX7_isLine 61 = .ok (.goto 4, 3) := by decide +kernel
theorem dX7_isLine_64 : decode cX7_isLine 64 = .ok (.iconst (-1), 1) := by decide +kernel
theorem dX7_isLine_65 : decode cX7_isLine 65 = .ok (.istore_n 2, 1) := by decide +kernel
theorem dX7_isLine_66 : decode cX7_isLine 66 = .ok (.aload_n 0, 1) := by decide +kernel
theorem dX7_isLine_67 : decode cX7_isLine 67 = .ok (.getfield 89, 3) := by decide +kernel
theorem dX7_isLine_70 : decode cX7_isLine 70 = .ok (.ldc2_w 129, 3) := by decide +kernel
theorem dX7_isLine_73 : decode cX7_isLine 73 = .ok (.lcmp, 1) := by decide +kernel
theorem dX7_isLine_74 : decode cX7_isLine 74 = .ok (.ifCond .ne 7, 3) := by decide +kernel
theorem dX7_isLine_77 : decode cX7_isLine 77 = .ok (.iconst 4, 1) := by decide +kernel
theorem dX7_isLine_78 : decode cX7_isLine 78 = .ok (.goto 51, 3) := by decide +kernel
theorem dX7_isLine_81 : decode cX7_isLine 81 = .ok (.aload_n 0, 1) := by decide +kernel
theorem dX7_isLine_82 : decode cX7_isLine 82 = .ok (.getfield 89, 3) := by decide +kernel
theorem dX7_isLine_85 : decode cX7_isLine 85 = .ok (.ldc2_w 131, 3) := by decide +kernel
theorem dX7_isLine_88 : decode cX7_isLine 88 = .ok (.lcmp, 1) := by decide +kernel
theorem dX7_isLine_89 : decode cX7_isLine 89 = .ok (.ifCond .ne 7, 3) := by decide +kernel
theorem dX7_isLine_92 : decode cX7_isLine 92 = .ok (.iconst 5, 1) := by decide +kernel
theorem dX7_isLine_93 : decode cX7_isLine 93 = .ok (.goto 36, 3) := by decide +kernel
theorem dX7_isLine_96 : decode cX7_isLine 96 = .ok (.aload_n 0, 1) := by decide +kernel
theorem dX7_isLine_97 : decode cX7_isLine 97 = .ok (.getfield 89, 3) := by decide +kernel
theorem dX7_isLine_100 : decode cX7_isLine 100 = .ok (.ldc2_w 133, 3) := by decide +kernel
theorem dX7_isLine_103 : decode cX7_isLine 103 = .ok (.lcmp, 1) := by decide +kernel
theorem dX7_isLine_104 : decode cX7_isLine 104 = .ok (.ifCond .ne 8, 3) := by decide +kernel
theorem dX7_isLine_107 : decode cX7_isLine 107 = .ok (.bipush 6, 2) := by decide +kernel
theorem dX7_isLine_109 : decode cX7_isLine 109 = .ok (.goto 20, 3) := by decide +kernel
theorem dX7_isLine_112 : decode cX7_isLine 112 = .ok (.aload_n 0, 1) := by decide +kernel
theorem dX7_isLine_113 : decode cX7_isLine 113 = .ok (.getfield 89, 3) := by decide +kernel
theorem dX7_isLine_116 : decode cX7_isLine 116 = .ok (.ldc2_w 135, 3) := by decide +kernel
theorem dX7_isLine_119 : decode cX7_isLine 119 = .ok (.lcmp, 1) := by decide +kernel
theorem dX7_isLine_120 : decode cX7_isLine 120 = .ok (.ifCond .ne 8, 3) := by decide +kernel
theorem dX7_isLine_123 : decode cX7_isLine 123 = .ok (.bipush 7, 2) := by decide +kernel
theorem dX7_isLine_125 : decode cX7_isLine 125 = .ok (.goto 4, 3) := by decide +kernel
theorem dX7_isLine_128 : decode cX7_isLine 128 = .ok (.iconst (-1), 1) := by decide +kernel
theorem dX7_isLine_129 : decode cX7_isLine 129 = .ok (.istore_n 3, 1) := by decide +kernel
theorem dX7_isLine_130 : decode cX7_isLine 130 = .ok (.aload_n 0, 1) := by decide +kernel
theorem dX7_isLine_131 : decode cX7_isLine 131 = .ok (.getfield 26, 3) := by decide +kernel
theorem dX7_isLine_134 : decode cX7_isLine 134 = .ok (.iload_n 1, 1) := by decide +kernel
theorem dX7_isLine_135 : decode cX7_isLine 135 = .ok (.iload_n 2, 1) := by decide +kernel
theorem dX7_isLine_136 : decode cX7_isLine 136 = .ok (.iconst (-1), 1) := by decide +kernel
theorem dX7_isLine_137 : decode cX7_isLine 137 = .ok (.if_icmp .ne 7, 3) := by decide +kernel
theorem dX7_isLine_140 : decode cX7_isLine 140 = .ok (.iload_n 3, 1) := by decide +kernel
theorem dX7_isLine_141 : decode cX7_isLine 141 = .ok (.goto 4, 3) := by decide +kernel
theorem dX7_isLine_144 : decode cX7_isLine 144 = .ok (.iload_n 2, 1) := by decide +kernel
theorem dX7_isLine_145 : decode cX7_isLine 145 = .ok (.iastore, 1) := by decide +kernel
theorem dX7_isLine_146 : decode cX7_isLine 146 = .ok (.aload_n 0, 1) := by decide +kernel
theorem dX7_isLine_147 : decode cX7_isLine 147 = .ok (.getfield 26, 3) := by decide +kernel
theorem dX7_isLine_150 : decode cX7_isLine 150 = .ok (.iload_n 1, 1) := by decide +kernel
theorem dX7_isLine_151 : decode cX7_isLine 151 = .ok (.iaload, 1) := by decide +kernel
theorem dX7_isLine_152 : decode cX7_isLine 152 = .ok (.tableswitch 95 0 7 #[48, 48, 48, 48, 58, 60, 60, 66], 48) := by decide +kernel
theorem dX7_isLine_200 : decode cX7_isLine 200 = .ok (.aload_n 0, 1) := by decide +kernel
theorem dX7_isLine_201 : decode cX7_isLine 201 = .ok (.iload_n 1, 1) := by decide +kernel
theorem dX7_isLine_202 : decode cX7_isLine 202 = .ok (.iconst 1, 1) := by decide +kernel
theorem dX7_isLine_203 : decode cX7_isLine 203 = .ok (.iadd, 1) := by decide +kernel
theorem dX7_isLine_204 : decode cX7_isLine 204 = .ok (.bipush 11, 2) := by decide +kernel
theorem dX7_isLine_206 : decode cX7_isLine 206 = .ok (.invokevirtual 113, 3) := by decide +kernel
theorem dX7_isLine_209 : decode cX7_isLine 209 = .ok (.ireturn, 1) := by decide +kernel
theorem dX7_isLine_210 : decode cX7_isLine 210 = .ok (.iconst 1, 1) := by decide +kernel
theorem dX7_isLine_211 : decode cX7_isLine 211 = .ok (.ireturn, 1) := by decide +kernel
theorem dX7_isLine_212 : decode cX7_isLine 212 = .ok (.aload_n 0, 1) := by decide +kernel
theorem dX7_isLine_213 : decode cX7_isLine 213 = .ok (.iload_n 1, 1) := by decide +kernel
theorem dX7_isLine_214 : decode cX7_isLine 214 = .ok (.invokevirtual 137, 3) := by decide +kernel
theorem dX7_isLine_217 : decode cX7_isLine 217 = .ok (.ireturn, 1) := by decide +kernel
theorem dX7_isLine_218 : decode cX7_isLine 218 = .ok (.aload_n 0, 1) := by decide +kernel
theorem dX7_isLine_219 : decode cX7_isLine 219 = .ok (.iload_n 1, 1) := by decide +kernel
theorem dX7_isLine_220 : decode cX7_isLine 220 = .ok (.iconst 1, 1) := by decide +kernel
theorem dX7_isLine_221 : decode cX7_isLine 221 = .ok (.iadd, 1) := by decide +kernel
theorem dX7_isLine_222 : decode cX7_isLine 222 = .ok (.bipush 11, 2) := by decide +kernel
theorem dX7_isLine_224 : decode cX7_isLine 224 = .ok (.invokevirtual 113, 3) := by decide +kernel
theorem dX7_isLine_227 : decode cX7_isLine 227 = .ok (.ifCond .eq 18, 3) := by decide +kernel
theorem dX7_isLine_230 : decode cX7_isLine 230 = .ok (.aload_n 0, 1) := by decide +kernel
theorem dX7_isLine_231 : decode cX7_isLine 231 = .ok (.iload_n 1, 1) := by decide +kernel
theorem dX7_isLine_232 : decode cX7_isLine 232 = .ok (.iconst 2, 1) := by decide +kernel
theorem dX7_isLine_233 : decode cX7_isLine 233 = .ok (.iadd, 1) := by decide +kernel
theorem dX7_isLine_234 : decode cX7_isLine 234 = .ok (.iconst 4, 1) := by decide +kernel
theorem dX7_isLine_235 : decode cX7_isLine 235 = .ok (.invokevirtual 113, 3) := by decide +kernel
theorem dX7_isLine_238 : decode cX7_isLine 238 = .ok (.ifCond .eq 7, 3) := by decide +kernel
theorem dX7_isLine_241 : decode cX7_isLine 241 = .ok (.iconst 1, 1) := by decide +kernel
theorem dX7_isLine_242 : decode cX7_isLine 242 = .ok (.goto 4, 3) := by decide +kernel
theorem dX7_isLine_245 : decode cX7_isLine 245 = .ok (.iconst 0, 1) := by decide +kernel
theorem dX7_isLine_246 : decode cX7_isLine 246 = .ok (.ireturn, 1) := by decide +kernel
theorem dX7_isLine_247 : decode cX7_isLine 247 = .ok (.aload_n 0, 1) := by decide +kernel
theorem dX7_isLine_248 : decode cX7_isLine 248 = .ok (.invokevirtual 109, 3) := by decide +kernel
theorem dX7_isLine_251 : decode cX7_isLine 251 = .ok (.ireturn, 1) := by decide +kernel
theorem dX7_isRead_0 : decode cX7_isRead 0 = .ok (.aload_n 0, 1) := by decide +kernel
theorem dX7_isRead_1 : decode cX7_isRead 1 = .ok (.iconst 0, 1) := by decide +kernel
theorem dX7_isRead_2 : decode cX7_isRead 2 = .ok (.putfield 75, 3) := by decide +kernel
theorem dX7_isRead_5 : decode cX7_isRead 5 = .ok (.aload_n 0, 1) := by decide +kernel
theorem dX7_isRead_6 : decode cX7_isRead 6 = .ok (.iconst 0, 1) := by decide +kernel
theorem dX7_isRead_7 : decode cX7_isRead 7 = .ok (.putfield 141, 3) := by decide +kernel
theorem dX7_isRead_10 : decode cX7_isRead 10 = .ok (.iconst 1, 1) := by decide +kernel
theorem dX7_isRead_11 : decode cX7_isRead 11 = .ok (.istore_n 1, 1) := by decide +kernel
theorem dX7_isRead_12 : decode cX7_isRead 12 = .ok (.iload_n 1, 1) := by decide +kernel
theorem dX7_isRead_13 : decode cX7_isRead 13 = .ok (.ifCond .eq 61, 3) := by decide +kernel
theorem dX7_isRead_16 : decode cX7_isRead 16 = .ok (.aload_n 0, 1) := by decide +kernel
theorem dX7_isRead_17 : decode cX7_isRead 17 = .ok (.iconst 3, 1) := by decide +kernel
theorem dX7_isRead_18 : decode cX7_isRead 18 = .ok (.aload_n 0, 1) := by decide +kernel
theorem dX7_isRead_19 : decode cX7_isRead 19 = .ok (.getfield 141, 3) := by decide +kernel
theorem dX7_isRead_22 : decode cX7_isRead 22 = .ok (.imul, 1) := by decide +kernel
theorem dX7_isRead_23 : decode cX7_isRead 23 = .ok (.invokevirtual 144, 3) := by decide +kernel
theorem dX7_isRead_26 : decode cX7_isRead 26 = .ok (.ifCond .ne 5, 3) := by decide +kernel
theorem dX7_isRead_29 : decode cX7_isRead 29 = .ok (.iconst 0, 1) := by decide +kernel
theorem dX7_isRead_30 : decode cX7_isRead 30 = .ok (.ireturn, 1) := by decide +kernel
theorem dX7_isRead_31 : decode cX7_isRead 31 = .ok (.aload_n 0, 1) := by decide +kernel
theorem dX7_isRead_32 : decode cX7_isRead 32 = .ok (.dup, 1) := by decide +kernel
theorem dX7_isRead_33 : decode cX7_isRead 33 = .ok (.getfield 141, 3) := by decide +kernel
theorem dX7_isRead_36 : decode cX7_isRead 36 = .ok (.iconst 1, 1) := by decide +kernel
theorem dX7_isRead_37 : decode cX7_isRead 37 = .ok (.iadd, 1) := by decide +kernel
theorem dX7_isRead_38 : decode cX7_isRead 38 = .ok (.putfield 141, 3) := by decide +kernel
theorem dX7_isRead_41 : decode cX7_isRead 41 = .ok (.aload_n 0, 1) := by decide +kernel
theorem dX7_isRead_42 : decode cX7_isRead 42 = .ok (.invokevirtual 106, 3) := by decide +kernel
theorem dX7_isRead_45 : decode cX7_isRead 45 = .ok (.aload_n 0, 1) := by decide +kernel
theorem dX7_isRead_46 : decode cX7_isRead 46 = .ok (.getfield 89, 3) := by decide +kernel
theorem dX7_isRead_49 : decode cX7_isRead 49 = .ok (.ldc2_w 101, 3) := by decide +kernel
theorem dX7_isRead_52 : decode cX7_isRead 52 = .ok (.lcmp, 1) := by decide +kernel
theorem dX7_isRead_53 : decode cX7_isRead 53 = .ok (.ifCond .ne 16, 3) := by decide +kernel
theorem dX7_isRead_56 : decode cX7_isRead 56 = .ok (.aload_n 0, 1) := by decide +kernel
theorem dX7_isRead_57 : decode cX7_isRead 57 = .ok (.getfield 141, 3) := by decide +kernel
theorem dX7_isRead_60 : decode cX7_isRead 60 = .ok (.bipush 12, 2) := by decide +kernel
theorem dX7_isRead_62 : decode cX7_isRead 62 = .ok (.if_icmp .ge 7, 3) := by decide +kernel
theorem dX7_isRead_65 : decode cX7_isRead 65 = .ok (.iconst 1, 1) := by decide +kernel
theorem dX7_isRead_66 : decode cX7_isRead 66 = .ok (.goto 4, 3) := by decide +kernel
theorem dX7_isRead_69 : decode cX7_isRead 69 = .ok (.iconst 0, 1) := by decide +kernel
theorem dX7_isRead_70 : decode cX7_isRead 70 = .ok (.istore_n 1, 1) := by decide +kernel
theorem dX7_isRead_71 : decode cX7_isRead 71 = .ok (.goto (-59), 3) := by decide +kernel
theorem dX7_isRead_74 : decode cX7_isRead 74 = .ok (.aload_n 0, 1) := by decide +kernel
theorem dX7_isRead_75 : decode cX7_isRead 75 = .ok (.getfield 89, 3) := by decide +kernel
theorem dX7_isRead_78 : decode cX7_isRead 78 = .ok (.ldc2_w 87, 3) := by decide +kernel
theorem dX7_isRead_81 : decode cX7_isRead 81 = .ok (.lcmp, 1) := by decide +kernel
theorem dX7_isRead_82 : decode cX7_isRead 82 = .ok (.ifCond .eq 10, 3) := by decide +kernel
theorem dX7_isRead_85 : decode cX7_isRead 85 = .ok (.aload_n 0, 1) := by decide +kernel
theorem dX7_isRead_86 : decode cX7_isRead 86 = .ok (.invokevirtual 109, 3) := by decide +kernel
theorem dX7_isRead_89 : decode cX7_isRead 89 = .ok (.ifCond .eq 7, 3) := by decide +kernel
theorem dX7_isRead_92 : decode cX7_isRead 92 = .ok (.iconst 1, 1) := by decide +kernel
theorem dX7_isRead_93 : decode cX7_isRead 93 = .ok (.goto 4, 3) := by decide +kernel
theorem dX7_isRead_96 : decode cX7_isRead 96 = .ok (.iconst 0, 1) := by decide +kernel
theorem dX7_isRead_97 : decode cX7_isRead 97 = .ok (.ireturn, 1) := by decide +kernel
theorem dX7_fault_0 : decode cX7_fault 0 = .ok (.aload_n 0, 1) := by decide +kernel
theorem dX7_fault_1 : decode cX7_fault 1 = .ok (.invokevirtual 147, 3) := by decide +kernel
theorem dX7_fault_4 : decode cX7_fault 4 = .ok (.ifCond .eq 7, 3) := by decide +kernel
theorem dX7_fault_7 : decode cX7_fault 7 = .ok (.iconst (-1), 1) := by decide +kernel
theorem dX7_fault_8 : decode cX7_fault 8 = .ok (.goto 7, 3) := by decide +kernel
theorem dX7_fault_11 : decode cX7_fault 11 = .ok (.aload_n 0, 1) := by decide +kernel
theorem dX7_fault_12 : decode cX7_fault 12 = .ok (.getfield 103, 3) := by decide +kernel
theorem dX7_fault_15 : decode cX7_fault 15 = .ok (.ireturn, 1) := by decide +kernel
theorem dX7_doLine_0 : decode cX7_doLine 0 = .ok (.aload_n 0, 1) := by decide +kernel
theorem dX7_doLine_1 : decode cX7_doLine 1 = .ok (.getfield 26, 3) := by decide +kernel
theorem dX7_doLine_4 : decode cX7_doLine 4 = .ok (.iload_n 1, 1) := by decide +kernel
theorem dX7_doLine_5 : decode cX7_doLine 5 = .ok (.iconst 1, 1) := by decide +kernel
theorem dX7_doLine_6 : decode cX7_doLine 6 = .ok (.iadd, 1) := by decide +kernel
theorem dX7_doLine_7 : decode cX7_doLine 7 = .ok (.iaload, 1) := by decide +kernel
theorem dX7_doLine_8 : decode cX7_doLine 8 = .ok (.istore_n 2, 1) := by decide +kernel
theorem dX7_doLine_9 : decode cX7_doLine 9 = .ok (.aload_n 0, 1) := by decide +kernel
theorem dX7_doLine_10 : decode cX7_doLine 10 = .ok (.getfield 26, 3) := by decide +kernel
theorem dX7_doLine_13 : decode cX7_doLine 13 = .ok (.iload_n 1, 1) := by decide +kernel
theorem dX7_doLine_14 : decode cX7_doLine 14 = .ok (.iconst 2, 1) := by decide +kernel
theorem dX7_doLine_15 : decode cX7_doLine 15 = .ok (.iadd, 1) := by decide +kernel
theorem dX7_doLine_16 : decode cX7_doLine 16 = .ok (.iaload, 1) := by decide +kernel
theorem dX7_doLine_17 : decode cX7_doLine 17 = .ok (.istore_n 3, 1) := by decide +kernel
theorem dX7_doLine_18 : decode cX7_doLine 18 = .ok (.aload_n 0, 1) := by decide +kernel
theorem dX7_doLine_19 : decode cX7_doLine 19 = .ok (.getfield 26, 3) := by decide +kernel
theorem dX7_doLine_22 : decode cX7_doLine 22 = .ok (.iload_n 1, 1) := by decide +kernel
theorem dX7_doLine_23 : decode cX7_doLine 23 = .ok (.iaload, 1) := by decide +kernel
theorem dX7_doLine_24 : decode cX7_doLine 24 = .ok (.tableswitch 169 4 7 #[32, 93, 93, 156], 32) := by decide +kernel
theorem dX7_doLine_56 : decode cX7_doLine 56 = .ok (.iconst 0, 1) := by decide +kernel
theorem dX7_doLine_57 : decode cX7_doLine 57 = .ok (.istore 4, 2) := by decide +kernel
theorem dX7_doLine_59 : decode cX7_doLine 59 = .ok (.iload 4, 2) := by decide +kernel
theorem dX7_doLine_61 : decode cX7_doLine 61 = .ok (.bipush 60, 2) := by decide +kernel
theorem dX7_doLine_63 : decode cX7_doLine 63 = .ok (.if_icmp .ge 17, 3) := by decide +kernel
theorem dX7_doLine_66 : decode cX7_doLine 66 = .ok (.aload_n 0, 1) := by decide +kernel
theorem dX7_doLine_67 : decode cX7_doLine 67 = .ok (.getfield 13, 3) := by decide +kernel
theorem dX7_doLine_70 : decode cX7_doLine 70 = .ok (.iload 4, 2) := by decide +kernel
theorem dX7_doLine_72 : decode cX7_doLine 72 = .ok (.iconst 0, 1) := by decide +kernel
theorem dX7_doLine_73 : decode cX7_doLine 73 = .ok (.bastore, 1) := by decide +kernel
theorem dX7_doLine_74 : decode cX7_doLine 74 = .ok (.iinc 4 1, 3) := by decide +kernel
theorem dX7_doLine_77 : decode cX7_doLine 77 = .ok (.goto (-18), 3) := by decide +kernel
theorem dX7_doLine_80 : decode cX7_doLine 80 = .ok (.iconst 0, 1) := by decide +kernel
theorem dX7_doLine_81 : decode cX7_doLine 81 = .ok (.istore 4, 2) := by decide +kernel
theorem dX7_doLine_83 : decode cX7_doLine 83 = .ok (.iload 4, 2) := by decide +kernel
theorem dX7_doLine_85 : decode cX7_doLine 85 = .ok (.bipush 12, 2) := by decide +kernel
theorem dX7_doLine_87 : decode cX7_doLine 87 = .ok (.if_icmp .ge 17, 3) := by decide +kernel
theorem dX7_doLine_90 : decode cX7_doLine 90 = .ok (.aload_n 0, 1) := by decide +kernel
theorem dX7_doLine_91 : decode cX7_doLine 91 = .ok (.getfield 17, 3) := by decide +kernel
theorem dX7_doLine_94 : decode cX7_doLine 94 = .ok (.iload 4, 2) := by decide +kernel
theorem dX7_doLine_96 : decode cX7_doLine 96 = .ok (.iconst 0, 1) := by decide +kernel
theorem dX7_doLine_97 : decode cX7_doLine 97 = .ok (.iastore, 1) := by decide +kernel
theorem dX7_doLine_98 : decode cX7_doLine 98 = .ok (.iinc 4 1, 3) := by decide +kernel
theorem dX7_doLine_101 : decode cX7_doLine 101 = .ok (.goto (-18), 3) := by decide +kernel
theorem dX7_doLine_104 : decode cX7_doLine 104 = .ok (.aload_n 0, 1) := by decide +kernel
theorem dX7_doLine_105 : decode cX7_doLine 105 = .ok (.iconst 0, 1) := by decide +kernel
theorem dX7_doLine_106 : decode cX7_doLine 106 = .ok (.putfield 150, 3) := by decide +kernel
theorem dX7_doLine_109 : decode cX7_doLine 109 = .ok (.aload_n 0, 1) := by decide +kernel
theorem dX7_doLine_110 : decode cX7_doLine 110 = .ok (.iconst 0, 1) := by decide +kernel
theorem dX7_doLine_111 : decode cX7_doLine 111 = .ok (.putfield 153, 3) := by decide +kernel
theorem dX7_doLine_114 : decode cX7_doLine 114 = .ok (.goto 91, 3) := by decide +kernel
theorem dX7_doLine_117 : decode cX7_doLine 117 = .ok (.aload_n 0, 1) := by decide +kernel
theorem dX7_doLine_118 : decode cX7_doLine 118 = .ok (.getfield 13, 3) := by decide +kernel
theorem dX7_doLine_121 : decode cX7_doLine 121 = .ok (.iconst 5, 1) := by decide +kernel
theorem dX7_doLine_122 : decode cX7_doLine 122 = .ok (.iload_n 2, 1) := by decide +kernel
theorem dX7_doLine_123 : decode cX7_doLine 123 = .ok (.imul, 1) := by decide +kernel
theorem dX7_doLine_124 : decode cX7_doLine 124 = .ok (.aload_n 0, 1) := by decide +kernel
theorem dX7_doLine_125 : decode cX7_doLine 125 = .ok (.iload_n 2, 1) := by decide +kernel
theorem dX7_doLine_126 : decode cX7_doLine 126 = .ok (.iload_n 3, 1) := by decide +kernel
theorem dX7_doLine_127 : decode cX7_doLine 127 = .ok (.invokevirtual 117, 3) := by decide +kernel
theorem dX7_doLine_130 : decode cX7_doLine 130 = .ok (.iadd, 1) := by decide +kernel
theorem dX7_doLine_131 : decode cX7_doLine 131 = .ok (.aload_n 0, 1) := by decide +kernel
theorem dX7_doLine_132 : decode cX7_doLine 132 = .ok (.getfield 26, 3) := by decide +kernel
theorem dX7_doLine_135 : decode cX7_doLine 135 = .ok (.iload_n 1, 1) := by decide +kernel
theorem dX7_doLine_136 : decode cX7_doLine 136 = .ok (.iaload, 1) := by decide +kernel
theorem dX7_doLine_137 : decode cX7_doLine 137 = .ok (.iconst 5, 1) := by decide +kernel
theorem dX7_doLine_138 : decode cX7_doLine 138 = .ok (.if_icmp .ne 7, 3) := by decide +kernel
theorem dX7_doLine_141 : decode cX7_doLine 141 = .ok (.iconst 1, 1) := by decide +kernel
theorem dX7_doLine_142 : decode cX7_doLine 142 = .ok (.goto 4, 3) := by decide +kernel
theorem dX7_doLine_145 : decode cX7_doLine 145 = .ok (.iconst 0, 1) := by decide +kernel
theorem dX7_doLine_146 : decode cX7_doLine 146 = .ok (.bastore, 1) := by decide +kernel
theorem dX7_doLine_147 : decode cX7_doLine 147 = .ok (.aload_n 0, 1) := by decide +kernel
theorem dX7_doLine_148 : decode cX7_doLine 148 = .ok (.getfield 13, 3) := by decide +kernel
theorem dX7_doLine_151 : decode cX7_doLine 151 = .ok (.iconst 5, 1) := by decide +kernel
theorem dX7_doLine_152 : decode cX7_doLine 152 = .ok (.iload_n 3, 1) := by decide +kernel
theorem dX7_doLine_153 : decode cX7_doLine 153 = .ok (.imul, 1) := by decide +kernel
theorem dX7_doLine_154 : decode cX7_doLine 154 = .ok (.aload_n 0, 1) := by decide +kernel
theorem dX7_doLine_155 : decode cX7_doLine 155 = .ok (.iload_n 3, 1) := by decide +kernel
theorem dX7_doLine_156 : decode cX7_doLine 156 = .ok (.iload_n 2, 1) := by decide +kernel
theorem dX7_doLine_157 : decode cX7_doLine 157 = .ok (.invokevirtual 117, 3) := by decide +kernel
theorem dX7_doLine_160 : decode cX7_doLine 160 = .ok (.iadd, 1) := by decide +kernel
theorem dX7_doLine_161 : decode cX7_doLine 161 = .ok (.aload_n 0, 1) := by decide +kernel
theorem dX7_doLine_162 : decode cX7_doLine 162 = .ok (.getfield 26, 3) := by decide +kernel
theorem dX7_doLine_165 : decode cX7_doLine 165 = .ok (.iload_n 1, 1) := by decide +kernel
theorem dX7_doLine_166 : decode cX7_doLine 166 = .ok (.iaload, 1) := by decide +kernel
theorem dX7_doLine_167 : decode cX7_doLine 167 = .ok (.iconst 5, 1) := by decide +kernel
theorem dX7_doLine_168 : decode cX7_doLine 168 = .ok (.if_icmp .ne 7, 3) := by decide +kernel
theorem dX7_doLine_171 : decode cX7_doLine 171 = .ok (.iconst 1, 1) := by decide +kernel
theorem dX7_doLine_172 : decode cX7_doLine 172 = .ok (.goto 4, 3) := by decide +kernel
theorem dX7_doLine_175 : decode cX7_doLine 175 = .ok (.iconst 0, 1) := by decide +kernel
theorem dX7_doLine_176 : decode cX7_doLine 176 = .ok (.bastore, 1) := by decide +kernel
theorem dX7_doLine_177 : decode cX7_doLine 177 = .ok (.goto 28, 3) := by decide +kernel
theorem dX7_doLine_180 : decode cX7_doLine 180 = .ok (.aload_n 0, 1) := by decide +kernel
theorem dX7_doLine_181 : decode cX7_doLine 181 = .ok (.iload_n 2, 1) := by decide +kernel
theorem dX7_doLine_182 : decode cX7_doLine 182 = .ok (.putfield 150, 3) := by decide +kernel
theorem dX7_doLine_185 : decode cX7_doLine 185 = .ok (.aload_n 0, 1) := by decide +kernel
theorem dX7_doLine_186 : decode cX7_doLine 186 = .ok (.iload_n 3, 1) := by decide +kernel
theorem dX7_doLine_187 : decode cX7_doLine 187 = .ok (.putfield 153, 3) := by decide +kernel
theorem dX7_doLine_190 : decode cX7_doLine 190 = .ok (.goto 15, 3) := by decide +kernel
theorem dX7_doLine_193 : decode cX7_doLine 193 = .ok (.aload_n 0, 1) := by decide +kernel
theorem dX7_doLine_194 : decode cX7_doLine 194 = .ok (.getfield 17, 3) := by decide +kernel
theorem dX7_doLine_197 : decode cX7_doLine 197 = .ok (.iload_n 2, 1) := by decide +kernel
theorem dX7_doLine_198 : decode cX7_doLine 198 = .ok (.aload_n 0, 1) := by decide +kernel
theorem dX7_doLine_199 : decode cX7_doLine 199 = .ok (.getfield 26, 3) := by decide +kernel
theorem dX7_doLine_202 : decode cX7_doLine 202 = .ok (.iload_n 1, 1) := by decide +kernel
theorem dX7_doLine_203 : decode cX7_doLine 203 = .ok (.iaload, 1) := by decide +kernel
theorem dX7_doLine_204 : decode cX7_doLine 204 = .ok (.iastore, 1) := by decide +kernel
theorem dX7_doLine_205 : decode cX7_doLine 205 = .ok (.return_, 1) := by decide +kernel
theorem dX7_town_0 : decode cX7_town 0 = .ok (.aload_n 0, 1) := by decide +kernel
theorem dX7_town_1 : decode cX7_town 1 = .ok (.invokevirtual 147, 3) := by decide +kernel
theorem dX7_town_4 : decode cX7_town 4 = .ok (.ifCond .ne 6, 3) := by decide +kernel
theorem dX7_town_7 : decode cX7_town 7 = .ok (.bipush (-4), 2) := by decide +kernel
theorem dX7_town_9 : decode cX7_town 9 = .ok (.ireturn, 1) := by decide +kernel
theorem dX7_town_10 : decode cX7_town 10 = .ok (.iconst 0, 1) := by decide +kernel
theorem dX7_town_11 : decode cX7_town 11 = .ok (.istore_n 1, 1) := by decide +kernel
theorem dX7_town_12 : decode cX7_town 12 = .ok (.iload_n 1, 1) := by decide +kernel
theorem dX7_town_13 : decode cX7_town 13 = .ok (.aload_n 0, 1) := by decide +kernel
theorem dX7_town_14 : decode cX7_town 14 = .ok (.getfield 141, 3) := by decide +kernel
theorem dX7_town_17 : decode cX7_town 17 = .ok (.if_icmp .ge 16, 3) := by decide +kernel
theorem dX7_town_20 : decode cX7_town 20 = .ok (.aload_n 0, 1) := by decide +kernel
theorem dX7_town_21 : decode cX7_town 21 = .ok (.iconst 3, 1) := by decide +kernel
theorem dX7_town_22 : decode cX7_town 22 = .ok (.iload_n 1, 1) := by decide +kernel
theorem dX7_town_23 : decode cX7_town 23 = .ok (.imul, 1) := by decide +kernel
theorem dX7_town_24 : decode cX7_town 24 = .ok (.invokevirtual 156, 3) := by decide +kernel
theorem dX7_town_27 : decode cX7_town 27 = .ok (.iinc 1 1, 3) := by decide +kernel
theorem dX7_town_30 : decode cX7_town 30 = .ok (.goto (-18), 3) := by decide +kernel
theorem dX7_town_33 : decode cX7_town 33 = .ok (.aload_n 0, 1) := by decide +kernel
theorem dX7_town_34 : decode cX7_town 34 = .ok (.iconst 0, 1) := by decide +kernel
theorem dX7_town_35 : decode cX7_town 35 = .ok (.putfield 69, 3) := by decide +kernel
theorem dX7_town_38 : decode cX7_town 38 = .ok (.iconst 0, 1) := by decide +kernel
theorem dX7_town_39 : decode cX7_town 39 = .ok (.istore_n 1, 1) := by decide +kernel
theorem dX7_town_40 : decode cX7_town 40 = .ok (.iload_n 1, 1) := by decide +kernel
theorem dX7_town_41 : decode cX7_town 41 = .ok (.bipush 12, 2) := by decide +kernel
theorem dX7_town_43 : decode cX7_town 43 = .ok (.if_icmp .ge 21, 3) := by decide +kernel
theorem dX7_town_46 : decode cX7_town 46 = .ok (.aload_n 0, 1) := by decide +kernel
theorem dX7_town_47 : decode cX7_town 47 = .ok (.getfield 20, 3) := by decide +kernel
theorem dX7_town_50 : decode cX7_town 50 = .ok (.iload_n 1, 1) := by decide +kernel
theorem dX7_town_51 : decode cX7_town 51 = .ok (.aload_n 0, 1) := by decide +kernel
theorem dX7_town_52 : decode cX7_town 52 = .ok (.getfield 17, 3) := by decide +kernel
theorem dX7_town_55 : decode cX7_town 55 = .ok (.iload_n 1, 1) := by decide +kernel
theorem dX7_town_56 : decode cX7_town 56 = .ok (.iaload, 1) := by decide +kernel
theorem dX7_town_57 : decode cX7_town 57 = .ok (.iastore, 1) := by decide +kernel
theorem dX7_town_58 : decode cX7_town 58 = .ok (.iinc 1 1, 3) := by decide +kernel
theorem dX7_town_61 : decode cX7_town 61 = .ok (.goto (-21), 3) := by decide +kernel
theorem dX7_town_64 : decode cX7_town 64 = .ok (.aload_n 0, 1) := by decide +kernel
theorem dX7_town_65 : decode cX7_town 65 = .ok (.aload_n 0, 1) := by decide +kernel
theorem dX7_town_66 : decode cX7_town 66 = .ok (.getfield 150, 3) := by decide +kernel
theorem dX7_town_69 : decode cX7_town 69 = .ok (.putfield 160, 3) := by decide +kernel
theorem dX7_town_72 : decode cX7_town 72 = .ok (.aload_n 0, 1) := by decide +kernel
theorem dX7_town_73 : decode cX7_town 73 = .ok (.aload_n 0, 1) := by decide +kernel
theorem dX7_town_74 : decode cX7_town 74 = .ok (.getfield 153, 3) := by decide +kernel
theorem dX7_town_77 : decode cX7_town 77 = .ok (.putfield 163, 3) := by decide +kernel
theorem dX7_town_80 : decode cX7_town 80 = .ok (.aload_n 0, 1) := by decide +kernel
theorem dX7_town_81 : decode cX7_town 81 = .ok (.iconst 0, 1) := by decide +kernel
theorem dX7_town_82 : decode cX7_town 82 = .ok (.putfield 166, 3) := by decide +kernel
theorem dX7_town_85 : decode cX7_town 85 = .ok (.aload_n 0, 1) := by decide +kernel
theorem dX7_town_86 : decode cX7_town 86 = .ok (.getfield 32, 3) := by decide +kernel
theorem dX7_town_89 : decode cX7_town 89 = .ok (.iconst 0, 1) := by decide +kernel
theorem dX7_town_90 : decode cX7_town 90 = .ok (.iconst 0, 1) := by decide +kernel
theorem dX7_town_91 : decode cX7_town 91 = .ok (.bastore, 1) := by decide +kernel
theorem dX7_town_92 : decode cX7_town 92 = .ok (.aload_n 0, 1) := by decide +kernel
theorem dX7_town_93 : decode cX7_town 93 = .ok (.getfield 32, 3) := by decide +kernel
theorem dX7_town_96 : decode cX7_town 96 = .ok (.iconst 1, 1) := by decide +kernel
theorem dX7_town_97 : decode cX7_town 97 = .ok (.iconst 0, 1) := by decide +kernel
theorem dX7_town_98 : decode cX7_town 98 = .ok (.bastore, 1) := by decide +kernel
theorem dX7_town_99 : decode cX7_town 99 = .ok (.aload_n 0, 1) := by decide +kernel
theorem dX7_town_100 : decode cX7_town 100 = .ok (.getfield 141, 3) := by decide +kernel
theorem dX7_town_103 : decode cX7_town 103 = .ok (.ireturn, 1) := by decide +kernel
theorem dX7_beside_0 : decode cX7_beside 0 = .ok (.iload_n 1, 1) := by decide +kernel
theorem dX7_beside_1 : decode cX7_beside 1 = .ok (.invokestatic 169, 3) := by decide +kernel
theorem dX7_beside_4 : decode cX7_beside 4 = .ok (.ifCond .eq 23, 3) := by decide +kernel
theorem dX7_beside_7 : decode cX7_beside 7 = .ok (.iload_n 2, 1) := by decide +kernel
theorem dX7_beside_8 : decode cX7_beside 8 = .ok (.invokestatic 172, 3) := by decide +kernel
theorem dX7_beside_11 : decode cX7_beside 11 = .ok (.ifCond .eq 16, 3) := by decide +kernel
theorem dX7_beside_14 : decode cX7_beside 14 = .ok (.aload_n 0, 1) := by decide +kernel
theorem dX7_beside_15 : decode cX7_beside 15 = .ok (.getfield 7, 3) := by decide +kernel
theorem dX7_beside_18 : decode cX7_beside 18 = .ok (.iconst 5, 1) := by decide +kernel
theorem dX7_beside_19 : decode cX7_beside 19 = .ok (.iload_n 1, 1) := by decide +kernel
theorem dX7_beside_20 : decode cX7_beside 20 = .ok (.imul, 1) := by decide +kernel
theorem dX7_beside_21 : decode cX7_beside 21 = .ok (.iload_n 2, 1) := by decide +kernel
theorem dX7_beside_22 : decode cX7_beside 22 = .ok (.iadd, 1) := by decide +kernel
theorem dX7_beside_23 : decode cX7_beside 23 = .ok (.iaload, 1) := by decide +kernel
theorem dX7_beside_24 : decode cX7_beside 24 = .ok (.goto 5, 3) := by decide +kernel
theorem dX7_beside_27 : decode cX7_beside 27 = .ok (.bipush (-2), 2) := by decide +kernel
theorem dX7_beside_29 : decode cX7_beside 29 = .ok (.ireturn, 1) := by decide +kernel
theorem dX7_side_0 : decode cX7_side 0 = .ok (.iload_n 1, 1) := by decide +kernel
theorem dX7_side_1 : decode cX7_side 1 = .ok (.invokestatic 169, 3) := by decide +kernel
theorem dX7_side_4 : decode cX7_side 4 = .ok (.ifCond .eq 19, 3) := by decide +kernel
theorem dX7_side_7 : decode cX7_side 7 = .ok (.iload_n 2, 1) := by decide +kernel
theorem dX7_side_8 : decode cX7_side 8 = .ok (.invokestatic 169, 3) := by decide +kernel
theorem dX7_side_11 : decode cX7_side 11 = .ok (.ifCond .eq 12, 3) := by decide +kernel
theorem dX7_side_14 : decode cX7_side 14 = .ok (.aload_n 0, 1) := by decide +kernel
theorem dX7_side_15 : decode cX7_side 15 = .ok (.iload_n 1, 1) := by decide +kernel
theorem dX7_side_16 : decode cX7_side 16 = .ok (.iload_n 2, 1) := by decide +kernel
theorem dX7_side_17 : decode cX7_side 17 = .ok (.invokevirtual 117, 3) := by decide +kernel
theorem dX7_side_20 : decode cX7_side 20 = .ok (.goto 5, 3) := by decide +kernel
theorem dX7_side_23 : decode cX7_side 23 = .ok (.bipush (-2), 2) := by decide +kernel
theorem dX7_side_25 : decode cX7_side 25 = .ok (.ireturn, 1) := by decide +kernel
theorem dX7_farOf_0 : decode cX7_farOf 0 = .ok (.iconst 1, 1) := by decide +kernel
theorem dX7_farOf_1 : decode cX7_farOf 1 = .ok (.iload_n 1, 1) := by decide +kernel
theorem dX7_farOf_2 : decode cX7_farOf 2 = .ok (.ishl, 1) := by decide +kernel
theorem dX7_farOf_3 : decode cX7_farOf 3 = .ok (.istore_n 3, 1) := by decide +kernel
theorem dX7_farOf_4 : decode cX7_farOf 4 = .ok (.iconst 0, 1) := by decide +kernel
theorem dX7_farOf_5 : decode cX7_farOf 5 = .ok (.istore 4, 2) := by decide +kernel
theorem dX7_farOf_7 : decode cX7_farOf 7 = .ok (.iload_n 3, 1) := by decide +kernel
theorem dX7_farOf_8 : decode cX7_farOf 8 = .ok (.iload_n 2, 1) := by decide +kernel
theorem dX7_farOf_9 : decode cX7_farOf 9 = .ok (.invokestatic 175, 3) := by decide +kernel
theorem dX7_farOf_12 : decode cX7_farOf 12 = .ok (.ifCond .ne 60, 3) := by decide +kernel
theorem dX7_farOf_15 : decode cX7_farOf 15 = .ok (.iload_n 3, 1) := by decide +kernel
theorem dX7_farOf_16 : decode cX7_farOf 16 = .ok (.istore 5, 2) := by decide +kernel
theorem dX7_farOf_18 : decode cX7_farOf 18 = .ok (.iconst 0, 1) := by decide +kernel
theorem dX7_farOf_19 : decode cX7_farOf 19 = .ok (.istore 6, 2) := by decide +kernel
theorem dX7_farOf_21 : decode cX7_farOf 21 = .ok (.iload 6, 2) := by decide +kernel
theorem dX7_farOf_23 : decode cX7_farOf 23 = .ok (.bipush 60, 2) := by decide +kernel
theorem dX7_farOf_25 : decode cX7_farOf 25 = .ok (.if_icmp .ge 38, 3) := by decide +kernel
theorem dX7_farOf_28 : decode cX7_farOf 28 = .ok (.iload 5, 2) := by decide +kernel
theorem dX7_farOf_30 : decode cX7_farOf 30 = .ok (.iload_n 3, 1) := by decide +kernel
theorem dX7_farOf_31 : decode cX7_farOf 31 = .ok (.iload 6, 2) := by decide +kernel
theorem dX7_farOf_33 : decode cX7_farOf 33 = .ok (.iconst 5, 1) := by decide +kernel
theorem dX7_farOf_34 : decode cX7_farOf 34 = .ok (.idiv, 1) := by decide +kernel
theorem dX7_farOf_35 : decode cX7_farOf 35 = .ok (.invokestatic 175, 3) := by decide +kernel
theorem dX7_farOf_38 : decode cX7_farOf 38 = .ok (.ifCond .eq 15, 3) := by decide +kernel
theorem dX7_farOf_41 : decode cX7_farOf 41 = .ok (.iconst 1, 1) := by decide +kernel
theorem dX7_farOf_42 : decode cX7_farOf 42 = .ok (.aload_n 0, 1) := by decide +kernel
theorem dX7_farOf_43 : decode cX7_farOf 43 = .ok (.getfield 7, 3) := by decide +kernel
theorem dX7_farOf_46 : decode cX7_farOf 46 = .ok (.iload 6, 2) := by decide +kernel
theorem dX7_farOf_48 : decode cX7_farOf 48 = .ok (.iaload, 1) := by decide +kernel
theorem dX7_farOf_49 : decode cX7_farOf 49 = .ok (.ishl, 1) := by decide +kernel
theorem dX7_farOf_50 : decode cX7_farOf 50 = .ok (.goto 4, 3) := by decide +kernel
theorem dX7_farOf_53 : decode cX7_farOf 53 = .ok (.iconst 0, 1) := by decide +kernel
theorem dX7_farOf_54 : decode cX7_farOf 54 = .ok (.ior, 1) := by decide +kernel
theorem dX7_farOf_55 : decode cX7_farOf 55 = .ok (.istore 5, 2) := by decide +kernel
theorem dX7_farOf_57 : decode cX7_farOf 57 = .ok (.iinc 6 1, 3) := by decide +kernel
theorem dX7_farOf_60 : decode cX7_farOf 60 = .ok (.goto (-39), 3) := by decide +kernel
theorem dX7_farOf_63 : decode cX7_farOf 63 = .ok (.iload 5, 2) := by decide +kernel
theorem dX7_farOf_65 : decode cX7_farOf 65 = .ok (.istore_n 3, 1) := by decide +kernel
theorem dX7_farOf_66 : decode cX7_farOf 66 = .ok (.iinc 4 1, 3) := by decide +kernel
theorem dX7_farOf_69 : decode cX7_farOf 69 = .ok (.goto (-62), 3) := by decide +kernel
theorem dX7_farOf_72 : decode cX7_farOf 72 = .ok (.iload 4, 2) := by decide +kernel
theorem dX7_farOf_74 : decode cX7_farOf 74 = .ok (.ireturn, 1) := by decide +kernel
theorem dX7_far_0 : decode cX7_far 0 = .ok (.iload_n 1, 1) := by decide +kernel
theorem dX7_far_1 : decode cX7_far 1 = .ok (.invokestatic 169, 3) := by decide +kernel
theorem dX7_far_4 : decode cX7_far 4 = .ok (.ifCond .eq 19, 3) := by decide +kernel
theorem dX7_far_7 : decode cX7_far 7 = .ok (.iload_n 2, 1) := by decide +kernel
theorem dX7_far_8 : decode cX7_far 8 = .ok (.invokestatic 169, 3) := by decide +kernel
theorem dX7_far_11 : decode cX7_far 11 = .ok (.ifCond .eq 12, 3) := by decide +kernel
theorem dX7_far_14 : decode cX7_far 14 = .ok (.aload_n 0, 1) := by decide +kernel
theorem dX7_far_15 : decode cX7_far 15 = .ok (.iload_n 1, 1) := by decide +kernel
theorem dX7_far_16 : decode cX7_far 16 = .ok (.iload_n 2, 1) := by decide +kernel
theorem dX7_far_17 : decode cX7_far 17 = .ok (.invokevirtual 178, 3) := by decide +kernel
theorem dX7_far_20 : decode cX7_far 20 = .ok (.goto 5, 3) := by decide +kernel
theorem dX7_far_23 : decode cX7_far 23 = .ok (.bipush (-2), 2) := by decide +kernel
theorem dX7_far_25 : decode cX7_far 25 = .ok (.ireturn, 1) := by decide +kernel
theorem dX7_other_0 : decode cX7_other 0 = .ok (.iload_n 1, 1) := by decide +kernel
theorem dX7_other_1 : decode cX7_other 1 = .ok (.invokestatic 169, 3) := by decide +kernel
theorem dX7_other_4 : decode cX7_other 4 = .ok (.ifCond .ne 6, 3) := by decide +kernel
theorem dX7_other_7 : decode cX7_other 7 = .ok (.bipush (-2), 2) := by decide +kernel
theorem dX7_other_9 : decode cX7_other 9 = .ok (.ireturn, 1) := by decide +kernel
theorem dX7_other_10 : decode cX7_other 10 = .ok (.iconst (-1), 1) := by decide +kernel
theorem dX7_other_11 : decode cX7_other 11 = .ok (.istore_n 2, 1) := by decide +kernel
theorem dX7_other_12 : decode cX7_other 12 = .ok (.iconst 0, 1) := by decide +kernel
theorem dX7_other_13 : decode cX7_other 13 = .ok (.istore_n 3, 1) := by decide +kernel
theorem dX7_other_14 : decode cX7_other 14 = .ok (.iload_n 3, 1) := by decide +kernel
theorem dX7_other_15 : decode cX7_other 15 = .ok (.bipush 12, 2) := by decide +kernel
theorem dX7_other_17 : decode cX7_other 17 = .ok (.if_icmp .ge 25, 3) := by decide +kernel
theorem dX7_other_20 : decode cX7_other 20 = .ok (.aload_n 0, 1) := by decide +kernel
theorem dX7_other_21 : decode cX7_other 21 = .ok (.iload_n 1, 1) := by decide +kernel
theorem dX7_other_22 : decode cX7_other 22 = .ok (.iload_n 3, 1) := by decide +kernel
theorem dX7_other_23 : decode cX7_other 23 = .ok (.invokevirtual 178, 3) := by decide +kernel
theorem dX7_other_26 : decode cX7_other 26 = .ok (.iconst 3, 1) := by decide +kernel
theorem dX7_other_27 : decode cX7_other 27 = .ok (.if_icmp .ne 7, 3) := by decide +kernel
theorem dX7_other_30 : decode cX7_other 30 = .ok (.iload_n 3, 1) := by decide +kernel
theorem dX7_other_31 : decode cX7_other 31 = .ok (.goto 4, 3) := by decide +kernel
theorem dX7_other_34 : decode cX7_other 34 = .ok (.iload_n 2, 1) := by decide +kernel
theorem dX7_other_35 : decode cX7_other 35 = .ok (.istore_n 2, 1) := by decide +kernel
theorem dX7_other_36 : decode cX7_other 36 = .ok (.iinc 3 1, 3) := by decide +kernel
theorem dX7_other_39 : decode cX7_other 39 = .ok (.goto (-25), 3) := by decide +kernel
theorem dX7_other_42 : decode cX7_other 42 = .ok (.iload_n 2, 1) := by decide +kernel
theorem dX7_other_43 : decode cX7_other 43 = .ok (.ireturn, 1) := by decide +kernel
theorem dX7_layTurning_0 : decode cX7_layTurning 0 = .ok (.iconst 0, 1) := by decide +kernel
theorem dX7_layTurning_1 : decode cX7_layTurning 1 = .ok (.istore_n 3, 1) := by decide +kernel
theorem dX7_layTurning_2 : decode cX7_layTurning 2 = .ok (.iload_n 3, 1) := by decide +kernel
theorem dX7_layTurning_3 : decode cX7_layTurning 3 = .ok (.bipush 12, 2) := by decide +kernel
theorem dX7_layTurning_5 : decode cX7_layTurning 5 = .ok (.if_icmp .ge 16, 3) := by decide +kernel
theorem dX7_layTurning_8 : decode cX7_layTurning 8 = .ok (.aload_n 0, 1) := by decide +kernel
theorem dX7_layTurning_9 : decode cX7_layTurning 9 = .ok (.getfield 35, 3) := by decide +kernel
theorem dX7_layTurning_12 : decode cX7_layTurning 12 = .ok (.iload_n 3, 1) := by decide +kernel
theorem dX7_layTurning_13 : decode cX7_layTurning 13 = .ok (.iconst (-1), 1) := by decide +kernel
theorem dX7_layTurning_14 : decode cX7_layTurning 14 = .ok (.iastore, 1) := by decide +kernel
theorem dX7_layTurning_15 : decode cX7_layTurning 15 = .ok (.iinc 3 1, 3) := by decide +kernel
theorem dX7_layTurning_18 : decode cX7_layTurning 18 = .ok (.goto (-16), 3) := by decide +kernel
theorem dX7_layTurning_21 : decode cX7_layTurning 21 = .ok (.aload_n 0, 1) := by decide +kernel
theorem dX7_layTurning_22 : decode cX7_layTurning 22 = .ok (.getfield 35, 3) := by decide +kernel
theorem dX7_layTurning_25 : decode cX7_layTurning 25 = .ok (.iconst 0, 1) := by decide +kernel
theorem dX7_layTurning_26 : decode cX7_layTurning 26 = .ok (.iload_n 1, 1) := by decide +kernel
theorem dX7_layTurning_27 : decode cX7_layTurning 27 = .ok (.iastore, 1) := by decide +kernel
theorem dX7_layTurning_28 : decode cX7_layTurning 28 = .ok (.aload_n 0, 1) := by decide +kernel
theorem dX7_layTurning_29 : decode cX7_layTurning 29 = .ok (.getfield 38, 3) := by decide +kernel
theorem dX7_layTurning_32 : decode cX7_layTurning 32 = .ok (.iconst 0, 1) := by decide +kernel
theorem dX7_layTurning_33 : decode cX7_layTurning 33 = .ok (.iload_n 2, 1) := by decide +kernel
theorem dX7_layTurning_34 : decode cX7_layTurning 34 = .ok (.iastore, 1) := by decide +kernel
theorem dX7_layTurning_35 : decode cX7_layTurning 35 = .ok (.iconst 0, 1) := by decide +kernel
theorem dX7_layTurning_36 : decode cX7_layTurning 36 = .ok (.istore_n 3, 1) := by decide +kernel
theorem dX7_layTurning_37 : decode cX7_layTurning 37 = .ok (.iload_n 3, 1) := by decide +kernel
theorem dX7_layTurning_38 : decode cX7_layTurning 38 = .ok (.iconst 3, 1) := by decide +kernel
theorem dX7_layTurning_39 : decode cX7_layTurning 39 = .ok (.if_icmp .ge 148, 3) := by decide +kernel
theorem dX7_layTurning_42 : decode cX7_layTurning 42 = .ok (.iconst 0, 1) := by decide +kernel
theorem dX7_layTurning_43 : decode cX7_layTurning 43 = .ok (.istore 4, 2) := by decide +kernel
theorem dX7_layTurning_45 : decode cX7_layTurning 45 = .ok (.iload 4, 2) := by decide +kernel
theorem dX7_layTurning_47 : decode cX7_layTurning 47 = .ok (.bipush 12, 2) := by decide +kernel
theorem dX7_layTurning_49 : decode cX7_layTurning 49 = .ok (.if_icmp .ge 132, 3) := by decide +kernel
theorem dX7_layTurning_52 : decode cX7_layTurning 52 = .ok (.iconst 0, 1) := by decide +kernel
theorem dX7_layTurning_53 : decode cX7_layTurning 53 = .ok (.istore 5, 2) := by decide +kernel
theorem dX7_layTurning_55 : decode cX7_layTurning 55 = .ok (.iload 5, 2) := by decide +kernel
theorem dX7_layTurning_57 : decode cX7_layTurning 57 = .ok (.iconst 5, 1) := by decide +kernel
theorem dX7_layTurning_58 : decode cX7_layTurning 58 = .ok (.if_icmp .ge 117, 3) := by decide +kernel
theorem dX7_layTurning_61 : decode cX7_layTurning 61 = .ok (.aload_n 0, 1) := by decide +kernel
theorem dX7_layTurning_62 : decode cX7_layTurning 62 = .ok (.getfield 35, 3) := by decide +kernel
theorem dX7_layTurning_65 : decode cX7_layTurning 65 = .ok (.iload 4, 2) := by decide +kernel
theorem dX7_layTurning_67 : decode cX7_layTurning 67 = .ok (.iaload, 1) := by decide +kernel
theorem dX7_layTurning_68 : decode cX7_layTurning 68 = .ok (.iconst (-1), 1) := by decide +kernel
theorem dX7_layTurning_69 : decode cX7_layTurning 69 = .ok (.if_icmp .eq 106, 3) := by decide +kernel
theorem dX7_layTurning_72 : decode cX7_layTurning 72 = .ok (.aload_n 0, 1) := by decide +kernel
theorem dX7_layTurning_73 : decode cX7_layTurning 73 = .ok (.getfield 7, 3) := by decide +kernel
theorem dX7_layTurning_76 : decode cX7_layTurning 76 = .ok (.iconst 5, 1) := by decide +kernel
theorem dX7_layTurning_77 : decode cX7_layTurning 77 = .ok (.iload 4, 2) := by decide +kernel
theorem dX7_layTurning_79 : decode cX7_layTurning 79 = .ok (.imul, 1) := by decide +kernel
theorem dX7_layTurning_80 : decode cX7_layTurning 80 = .ok (.iload 5, 2) := by decide +kernel
theorem dX7_layTurning_82 : decode cX7_layTurning 82 = .ok (.iadd, 1) := by decide +kernel
theorem dX7_layTurning_83 : decode cX7_layTurning 83 = .ok (.iaload, 1) := by decide +kernel
theorem dX7_layTurning_84 : decode cX7_layTurning 84 = .ok (.istore 6, 2) := by decide +kernel
theorem dX7_layTurning_86 : decode cX7_layTurning 86 = .ok (.aload_n 0, 1) := by decide +kernel
theorem dX7_layTurning_87 : decode cX7_layTurning 87 = .ok (.getfield 35, 3) := by decide +kernel
theorem dX7_layTurning_90 : decode cX7_layTurning 90 = .ok (.iload 6, 2) := by decide +kernel
theorem dX7_layTurning_92 : decode cX7_layTurning 92 = .ok (.iaload, 1) := by decide +kernel
theorem dX7_layTurning_93 : decode cX7_layTurning 93 = .ok (.iconst (-1), 1) := by decide +kernel
theorem dX7_layTurning_94 : decode cX7_layTurning 94 = .ok (.if_icmp .ne 75, 3) := by decide +kernel
theorem dX7_layTurning_97 : decode cX7_layTurning 97 = .ok (.aload_n 0, 1) := by decide +kernel
theorem dX7_layTurning_98 : decode cX7_layTurning 98 = .ok (.getfield 35, 3) := by decide +kernel
theorem dX7_layTurning_101 : decode cX7_layTurning 101 = .ok (.iload 6, 2) := by decide +kernel
theorem dX7_layTurning_103 : decode cX7_layTurning 103 = .ok (.aload_n 0, 1) := by decide +kernel
theorem dX7_layTurning_104 : decode cX7_layTurning 104 = .ok (.getfield 7, 3) := by decide +kernel
theorem dX7_layTurning_107 : decode cX7_layTurning 107 = .ok (.iconst 5, 1) := by decide +kernel
theorem dX7_layTurning_108 : decode cX7_layTurning 108 = .ok (.aload_n 0, 1) := by decide +kernel
theorem dX7_layTurning_109 : decode cX7_layTurning 109 = .ok (.getfield 35, 3) := by decide +kernel
theorem dX7_layTurning_112 : decode cX7_layTurning 112 = .ok (.iload 4, 2) := by decide +kernel
theorem dX7_layTurning_114 : decode cX7_layTurning 114 = .ok (.iaload, 1) := by decide +kernel
theorem dX7_layTurning_115 : decode cX7_layTurning 115 = .ok (.imul, 1) := by decide +kernel
theorem dX7_layTurning_116 : decode cX7_layTurning 116 = .ok (.iload 5, 2) := by decide +kernel
theorem dX7_layTurning_118 : decode cX7_layTurning 118 = .ok (.aload_n 0, 1) := by decide +kernel
theorem dX7_layTurning_119 : decode cX7_layTurning 119 = .ok (.getfield 38, 3) := by decide +kernel
theorem dX7_layTurning_122 : decode cX7_layTurning 122 = .ok (.iload 4, 2) := by decide +kernel
theorem dX7_layTurning_124 : decode cX7_layTurning 124 = .ok (.iaload, 1) := by decide +kernel
theorem dX7_layTurning_125 : decode cX7_layTurning 125 = .ok (.iadd, 1) := by decide +kernel
theorem dX7_layTurning_126 : decode cX7_layTurning 126 = .ok (.iconst 5, 1) := by decide +kernel
theorem dX7_layTurning_127 : decode cX7_layTurning 127 = .ok (.irem, 1) := by decide +kernel
theorem dX7_layTurning_128 : decode cX7_layTurning 128 = .ok (.iadd, 1) := by decide +kernel
theorem dX7_layTurning_129 : decode cX7_layTurning 129 = .ok (.iaload, 1) := by decide +kernel
theorem dX7_layTurning_130 : decode cX7_layTurning 130 = .ok (.iastore, 1) := by decide +kernel
theorem dX7_layTurning_131 : decode cX7_layTurning 131 = .ok (.aload_n 0, 1) := by decide +kernel
theorem dX7_layTurning_132 : decode cX7_layTurning 132 = .ok (.getfield 38, 3) := by decide +kernel
theorem dX7_layTurning_135 : decode cX7_layTurning 135 = .ok (.iload 6, 2) := by decide +kernel
theorem dX7_layTurning_137 : decode cX7_layTurning 137 = .ok (.aload_n 0, 1) := by decide +kernel
theorem dX7_layTurning_138 : decode cX7_layTurning 138 = .ok (.aload_n 0, 1) := by decide +kernel
theorem dX7_layTurning_139 : decode cX7_layTurning 139 = .ok (.getfield 35, 3) := by decide +kernel
theorem dX7_layTurning_142 : decode cX7_layTurning 142 = .ok (.iload 6, 2) := by decide +kernel
theorem dX7_layTurning_144 : decode cX7_layTurning 144 = .ok (.iaload, 1) := by decide +kernel
theorem dX7_layTurning_145 : decode cX7_layTurning 145 = .ok (.aload_n 0, 1) := by decide +kernel
theorem dX7_layTurning_146 : decode cX7_layTurning 146 = .ok (.getfield 35, 3) := by decide +kernel
theorem dX7_layTurning_149 : decode cX7_layTurning 149 = .ok (.iload 4, 2) := by decide +kernel
theorem dX7_layTurning_151 : decode cX7_layTurning 151 = .ok (.iaload, 1) := by decide +kernel
theorem dX7_layTurning_152 : decode cX7_layTurning 152 = .ok (.invokevirtual 117, 3) := by decide +kernel
theorem dX7_layTurning_155 : decode cX7_layTurning 155 = .ok (.aload_n 0, 1) := by decide +kernel
theorem dX7_layTurning_156 : decode cX7_layTurning 156 = .ok (.iload 6, 2) := by decide +kernel
theorem dX7_layTurning_158 : decode cX7_layTurning 158 = .ok (.iload 4, 2) := by decide +kernel
theorem dX7_layTurning_160 : decode cX7_layTurning 160 = .ok (.invokevirtual 117, 3) := by decide +kernel
theorem dX7_layTurning_163 : decode cX7_layTurning 163 = .ok (.isub, 1) := by decide +kernel
theorem dX7_layTurning_164 : decode cX7_layTurning 164 = .ok (.iconst 5, 1) := by decide +kernel
theorem dX7_layTurning_165 : decode cX7_layTurning 165 = .ok (.iadd, 1) := by decide +kernel
theorem dX7_layTurning_166 : decode cX7_layTurning 166 = .ok (.iconst 5, 1) := by decide +kernel
theorem dX7_layTurning_167 : decode cX7_layTurning 167 = .ok (.irem, 1) := by decide +kernel
theorem dX7_layTurning_168 : decode cX7_layTurning 168 = .ok (.iastore, 1) := by decide +kernel
theorem dX7_layTurning_169 : decode cX7_layTurning 169 = .ok (.iinc 5 1, 3) := by decide +kernel
theorem dX7_layTurning_172 : decode cX7_layTurning 172 = .ok (.goto (-117), 3) := by decide +kernel
theorem dX7_layTurning_175 : decode cX7_layTurning 175 = .ok (.iinc 4 1, 3) := by decide +kernel
theorem dX7_layTurning_178 : decode cX7_layTurning 178 = .ok (.goto (-133), 3) := by decide +kernel
theorem dX7_layTurning_181 : decode cX7_layTurning 181 = .ok (.iinc 3 1, 3) := by decide +kernel
theorem dX7_layTurning_184 : decode cX7_layTurning 184 = .ok (.goto (-147), 3) := by decide +kernel
theorem dX7_layTurning_187 : decode cX7_layTurning 187 = .ok (.return_, 1) := by decide +kernel
theorem dX7_goes_0 : decode cX7_goes 0 = .ok (.iload_n 1, 1) := by decide +kernel
theorem dX7_goes_1 : decode cX7_goes 1 = .ok (.invokestatic 169, 3) := by decide +kernel
theorem dX7_goes_4 : decode cX7_goes 4 = .ok (.ifCond .eq 17, 3) := by decide +kernel
theorem dX7_goes_7 : decode cX7_goes 7 = .ok (.iload_n 2, 1) := by decide +kernel
theorem dX7_goes_8 : decode cX7_goes 8 = .ok (.invokestatic 172, 3) := by decide +kernel
theorem dX7_goes_11 : decode cX7_goes 11 = .ok (.ifCond .eq 10, 3) := by decide +kernel
theorem dX7_goes_14 : decode cX7_goes 14 = .ok (.iload_n 3, 1) := by decide +kernel
theorem dX7_goes_15 : decode cX7_goes 15 = .ok (.invokestatic 169, 3) := by decide +kernel
theorem dX7_goes_18 : decode cX7_goes 18 = .ok (.ifCond .ne 6, 3) := by decide +kernel
theorem dX7_goes_21 : decode cX7_goes 21 = .ok (.bipush (-2), 2) := by decide +kernel
theorem dX7_goes_23 : decode cX7_goes 23 = .ok (.ireturn, 1) := by decide +kernel
theorem dX7_goes_24 : decode cX7_goes 24 = .ok (.aload_n 0, 1) := by decide +kernel
theorem dX7_goes_25 : decode cX7_goes 25 = .ok (.iload_n 1, 1) := by decide +kernel
theorem dX7_goes_26 : decode cX7_goes 26 = .ok (.iload_n 2, 1) := by decide +kernel
theorem dX7_goes_27 : decode cX7_goes 27 = .ok (.invokevirtual 181, 3) := by decide +kernel
theorem dX7_goes_30 : decode cX7_goes 30 = .ok (.aload_n 0, 1) := by decide +kernel
theorem dX7_goes_31 : decode cX7_goes 31 = .ok (.getfield 35, 3) := by decide +kernel
theorem dX7_goes_34 : decode cX7_goes 34 = .ok (.iload_n 3, 1) := by decide +kernel
theorem dX7_goes_35 : decode cX7_goes 35 = .ok (.iaload, 1) := by decide +kernel
theorem dX7_goes_36 : decode cX7_goes 36 = .ok (.ireturn, 1) := by decide +kernel
theorem dX7_openOf_0 : decode cX7_openOf 0 = .ok (.iconst 0, 1) := by decide +kernel
theorem dX7_openOf_1 : decode cX7_openOf 1 = .ok (.istore_n 2, 1) := by decide +kernel
theorem dX7_openOf_2 : decode cX7_openOf 2 = .ok (.iconst 0, 1) := by decide +kernel
theorem dX7_openOf_3 : decode cX7_openOf 3 = .ok (.istore_n 3, 1) := by decide +kernel
theorem dX7_openOf_4 : decode cX7_openOf 4 = .ok (.iload_n 3, 1) := by decide +kernel
theorem dX7_openOf_5 : decode cX7_openOf 5 = .ok (.iconst 5, 1) := by decide +kernel
theorem dX7_openOf_6 : decode cX7_openOf 6 = .ok (.if_icmp .ge 41, 3) := by decide +kernel
theorem dX7_openOf_9 : decode cX7_openOf 9 = .ok (.iload_n 2, 1) := by decide +kernel
theorem dX7_openOf_10 : decode cX7_openOf 10 = .ok (.aload_n 0, 1) := by decide +kernel
theorem dX7_openOf_11 : decode cX7_openOf 11 = .ok (.getfield 13, 3) := by decide +kernel
theorem dX7_openOf_14 : decode cX7_openOf 14 = .ok (.iconst 5, 1) := by decide +kernel
theorem dX7_openOf_15 : decode cX7_openOf 15 = .ok (.iload_n 1, 1) := by decide +kernel
theorem dX7_openOf_16 : decode cX7_openOf 16 = .ok (.imul, 1) := by decide +kernel
theorem dX7_openOf_17 : decode cX7_openOf 17 = .ok (.iload_n 3, 1) := by decide +kernel
theorem dX7_openOf_18 : decode cX7_openOf 18 = .ok (.iadd, 1) := by decide +kernel
theorem dX7_openOf_19 : decode cX7_openOf 19 = .ok (.baload, 1) := by decide +kernel
theorem dX7_openOf_20 : decode cX7_openOf 20 = .ok (.ifCond .eq 7, 3) := by decide +kernel
theorem dX7_openOf_23 : decode cX7_openOf 23 = .ok (.iconst 0, 1) := by decide +kernel
theorem dX7_openOf_24 : decode cX7_openOf 24 = .ok (.goto 15, 3) := by decide +kernel
theorem dX7_openOf_27 : decode cX7_openOf 27 = .ok (.iconst 1, 1) := by decide +kernel
theorem dX7_openOf_28 : decode cX7_openOf 28 = .ok (.aload_n 0, 1) := by decide +kernel
theorem dX7_openOf_29 : decode cX7_openOf 29 = .ok (.getfield 7, 3) := by decide +kernel
theorem dX7_openOf_32 : decode cX7_openOf 32 = .ok (.iconst 5, 1) := by decide +kernel
theorem dX7_openOf_33 : decode cX7_openOf 33 = .ok (.iload_n 1, 1) := by decide +kernel
theorem dX7_openOf_34 : decode cX7_openOf 34 = .ok (.imul, 1) := by decide +kernel
theorem dX7_openOf_35 : decode cX7_openOf 35 = .ok (.iload_n 3, 1) := by decide +kernel
theorem dX7_openOf_36 : decode cX7_openOf 36 = .ok (.iadd, 1) := by decide +kernel
theorem dX7_openOf_37 : decode cX7_openOf 37 = .ok (.iaload, 1) := by decide +kernel
theorem dX7_openOf_38 : decode cX7_openOf 38 = .ok (.ishl, 1) := by decide +kernel
theorem dX7_openOf_39 : decode cX7_openOf 39 = .ok (.ior, 1) := by decide +kernel
theorem dX7_openOf_40 : decode cX7_openOf 40 = .ok (.istore_n 2, 1) := by decide +kernel
theorem dX7_openOf_41 : decode cX7_openOf 41 = .ok (.iinc 3 1, 3) := by decide +kernel
theorem dX7_openOf_44 : decode cX7_openOf 44 = .ok (.goto (-40), 3) := by decide +kernel
theorem dX7_openOf_47 : decode cX7_openOf 47 = .ok (.iload_n 2, 1) := by decide +kernel
theorem dX7_openOf_48 : decode cX7_openOf 48 = .ok (.ireturn, 1) := by decide +kernel
theorem dX7_openOfKind_0 : decode cX7_openOfKind 0 = .ok (.aload_n 0, 1) := by decide +kernel
theorem dX7_openOfKind_1 : decode cX7_openOfKind 1 = .ok (.iload_n 1, 1) := by decide +kernel
theorem dX7_openOfKind_2 : decode cX7_openOfKind 2 = .ok (.invokevirtual 184, 3) := by decide +kernel
theorem dX7_openOfKind_5 : decode cX7_openOfKind 5 = .ok (.istore_n 3, 1) := by decide +kernel
theorem dX7_openOfKind_6 : decode cX7_openOfKind 6 = .ok (.iconst 0, 1) := by decide +kernel
theorem dX7_openOfKind_7 : decode cX7_openOfKind 7 = .ok (.istore 4, 2) := by decide +kernel
theorem dX7_openOfKind_9 : decode cX7_openOfKind 9 = .ok (.iconst 0, 1) := by decide +kernel
theorem dX7_openOfKind_10 : decode cX7_openOfKind 10 = .ok (.istore 5, 2) := by decide +kernel
theorem dX7_openOfKind_12 : decode cX7_openOfKind 12 = .ok (.iload 5, 2) := by decide +kernel
theorem dX7_openOfKind_14 : decode cX7_openOfKind 14 = .ok (.bipush 12, 2) := by decide +kernel
theorem dX7_openOfKind_16 : decode cX7_openOfKind 16 = .ok (.if_icmp .ge 39, 3) := by decide +kernel
theorem dX7_openOfKind_19 : decode cX7_openOfKind 19 = .ok (.iload 4, 2) := by decide +kernel
theorem dX7_openOfKind_21 : decode cX7_openOfKind 21 = .ok (.iload_n 3, 1) := by decide +kernel
theorem dX7_openOfKind_22 : decode cX7_openOfKind 22 = .ok (.iload 5, 2) := by decide +kernel
theorem dX7_openOfKind_24 : decode cX7_openOfKind 24 = .ok (.invokestatic 175, 3) := by decide +kernel
theorem dX7_openOfKind_27 : decode cX7_openOfKind 27 = .ok (.ifCond .eq 18, 3) := by decide +kernel
theorem dX7_openOfKind_30 : decode cX7_openOfKind 30 = .ok (.aload_n 0, 1) := by decide +kernel
theorem dX7_openOfKind_31 : decode cX7_openOfKind 31 = .ok (.getfield 20, 3) := by decide +kernel
theorem dX7_openOfKind_34 : decode cX7_openOfKind 34 = .ok (.iload 5, 2) := by decide +kernel
theorem dX7_openOfKind_36 : decode cX7_openOfKind 36 = .ok (.iaload, 1) := by decide +kernel
theorem dX7_openOfKind_37 : decode cX7_openOfKind 37 = .ok (.iload_n 2, 1) := by decide +kernel
theorem dX7_openOfKind_38 : decode cX7_openOfKind 38 = .ok (.if_icmp .ne 7, 3) := by decide +kernel
theorem dX7_openOfKind_41 : decode cX7_openOfKind 41 = .ok (.iconst 1, 1) := by decide +kernel
theorem dX7_openOfKind_42 : decode cX7_openOfKind 42 = .ok (.goto 4, 3) := by decide +kernel
theorem dX7_openOfKind_45 : decode cX7_openOfKind 45 = .ok (.iconst 0, 1) := by decide +kernel
theorem dX7_openOfKind_46 : decode cX7_openOfKind 46 = .ok (.iadd, 1) := by decide +kernel
theorem dX7_openOfKind_47 : decode cX7_openOfKind 47 = .ok (.istore 4, 2) := by decide +kernel
theorem dX7_openOfKind_49 : decode cX7_openOfKind 49 = .ok (.iinc 5 1, 3) := by decide +kernel
theorem dX7_openOfKind_52 : decode cX7_openOfKind 52 = .ok (.goto (-40), 3) := by decide +kernel
theorem dX7_openOfKind_55 : decode cX7_openOfKind 55 = .ok (.iload 4, 2) := by decide +kernel
theorem dX7_openOfKind_57 : decode cX7_openOfKind 57 = .ok (.ireturn, 1) := by decide +kernel
theorem dX7_taxOf_0 : decode cX7_taxOf 0 = .ok (.aload_n 0, 1) := by decide +kernel
theorem dX7_taxOf_1 : decode cX7_taxOf 1 = .ok (.getfield 20, 3) := by decide +kernel
theorem dX7_taxOf_4 : decode cX7_taxOf 4 = .ok (.iload_n 1, 1) := by decide +kernel
theorem dX7_taxOf_5 : decode cX7_taxOf 5 = .ok (.iaload, 1) := by decide +kernel
theorem dX7_taxOf_6 : decode cX7_taxOf 6 = .ok (.tableswitch 56 0 2 #[26, 28, 37], 26) := by decide +kernel
theorem dX7_taxOf_32 : decode cX7_taxOf 32 = .ok (.iconst 0, 1) := by decide +kernel
theorem dX7_taxOf_33 : decode cX7_taxOf 33 = .ok (.ireturn, 1) := by decide +kernel
theorem dX7_taxOf_34 : decode cX7_taxOf 34 = .ok (.iconst 2, 1) := by decide +kernel
theorem dX7_taxOf_35 : decode cX7_taxOf 35 = .ok (.aload_n 0, 1) := by decide +kernel
theorem dX7_taxOf_36 : decode cX7_taxOf 36 = .ok (.iload_n 1, 1) := by decide +kernel
theorem dX7_taxOf_37 : decode cX7_taxOf 37 = .ok (.iconst 3, 1) := by decide +kernel
theorem dX7_taxOf_38 : decode cX7_taxOf 38 = .ok (.invokevirtual 188, 3) := by decide +kernel
theorem dX7_taxOf_41 : decode cX7_taxOf 41 = .ok (.iadd, 1) := by decide +kernel
theorem dX7_taxOf_42 : decode cX7_taxOf 42 = .ok (.ireturn, 1) := by decide +kernel
theorem dX7_taxOf_43 : decode cX7_taxOf 43 = .ok (.iconst 3, 1) := by decide +kernel
theorem dX7_taxOf_44 : decode cX7_taxOf 44 = .ok (.aload_n 0, 1) := by decide +kernel
theorem dX7_taxOf_45 : decode cX7_taxOf 45 = .ok (.iload_n 1, 1) := by decide +kernel
theorem dX7_taxOf_46 : decode cX7_taxOf 46 = .ok (.iconst 1, 1) := by decide +kernel
theorem dX7_taxOf_47 : decode cX7_taxOf 47 = .ok (.invokevirtual 188, 3) := by decide +kernel
theorem dX7_taxOf_50 : decode cX7_taxOf 50 = .ok (.isub, 1) := by decide +kernel
theorem dX7_taxOf_51 : decode cX7_taxOf 51 = .ok (.istore_n 2, 1) := by decide +kernel
theorem dX7_taxOf_52 : decode cX7_taxOf 52 = .ok (.iload_n 2, 1) := by decide +kernel
theorem dX7_taxOf_53 : decode cX7_taxOf 53 = .ok (.ifCond .ge 7, 3) := by decide +kernel
theorem dX7_taxOf_56 : decode cX7_taxOf 56 = .ok (.iconst 0, 1) := by decide +kernel
theorem dX7_taxOf_57 : decode cX7_taxOf 57 = .ok (.goto 4, 3) := by decide +kernel
theorem dX7_taxOf_60 : decode cX7_taxOf 60 = .ok (.iload_n 2, 1) := by decide +kernel
theorem dX7_taxOf_61 : decode cX7_taxOf 61 = .ok (.ireturn, 1) := by decide +kernel
theorem dX7_taxOf_62 : decode cX7_taxOf 62 = .ok (.iconst 1, 1) := by decide +kernel
theorem dX7_taxOf_63 : decode cX7_taxOf 63 = .ok (.ireturn, 1) := by decide +kernel
theorem dX7_field_0 : decode cX7_field 0 = .ok (.iload_n 1, 1) := by decide +kernel
theorem dX7_field_1 : decode cX7_field 1 = .ok (.invokestatic 169, 3) := by decide +kernel
theorem dX7_field_4 : decode cX7_field 4 = .ok (.ifCond .ne 6, 3) := by decide +kernel
theorem dX7_field_7 : decode cX7_field 7 = .ok (.bipush (-2), 2) := by decide +kernel
theorem dX7_field_9 : decode cX7_field 9 = .ok (.ireturn, 1) := by decide +kernel
theorem dX7_field_10 : decode cX7_field 10 = .ok (.iconst 0, 1) := by decide +kernel
theorem dX7_field_11 : decode cX7_field 11 = .ok (.istore_n 3, 1) := by decide +kernel
theorem dX7_field_12 : decode cX7_field 12 = .ok (.iconst 0, 1) := by decide +kernel
theorem dX7_field_13 : decode cX7_field 13 = .ok (.istore 4, 2) := by decide +kernel
theorem dX7_field_15 : decode cX7_field 15 = .ok (.iload 4, 2) := by decide +kernel
theorem dX7_field_17 : decode cX7_field 17 = .ok (.iconst 5, 1) := by decide +kernel
theorem dX7_field_18 : decode cX7_field 18 = .ok (.if_icmp .ge 34, 3) := by decide +kernel
theorem dX7_field_21 : decode cX7_field 21 = .ok (.iload_n 3, 1) := by decide +kernel
theorem dX7_field_22 : decode cX7_field 22 = .ok (.aload_n 0, 1) := by decide +kernel
theorem dX7_field_23 : decode cX7_field 23 = .ok (.getfield 13, 3) := by decide +kernel
theorem dX7_field_26 : decode cX7_field 26 = .ok (.iconst 5, 1) := by decide +kernel
theorem dX7_field_27 : decode cX7_field 27 = .ok (.iload_n 1, 1) := by decide +kernel
theorem dX7_field_28 : decode cX7_field 28 = .ok (.imul, 1) := by decide +kernel
theorem dX7_field_29 : decode cX7_field 29 = .ok (.iload 4, 2) := by decide +kernel
theorem dX7_field_31 : decode cX7_field 31 = .ok (.iadd, 1) := by decide +kernel
theorem dX7_field_32 : decode cX7_field 32 = .ok (.baload, 1) := by decide +kernel
theorem dX7_field_33 : decode cX7_field 33 = .ok (.ifCond .eq 10, 3) := by decide +kernel
theorem dX7_field_36 : decode cX7_field 36 = .ok (.iconst 1, 1) := by decide +kernel
theorem dX7_field_37 : decode cX7_field 37 = .ok (.iload 4, 2) := by decide +kernel
theorem dX7_field_39 : decode cX7_field 39 = .ok (.ishl, 1) := by decide +kernel
theorem dX7_field_40 : decode cX7_field 40 = .ok (.goto 4, 3) := by decide +kernel
theorem dX7_field_43 : decode cX7_field 43 = .ok (.iconst 0, 1) := by decide +kernel
theorem dX7_field_44 : decode cX7_field 44 = .ok (.ior, 1) := by decide +kernel
theorem dX7_field_45 : decode cX7_field 45 = .ok (.istore_n 3, 1) := by decide +kernel
theorem dX7_field_46 : decode cX7_field 46 = .ok (.iinc 4 1, 3) := by decide +kernel
theorem dX7_field_49 : decode cX7_field 49 = .ok (.goto (-34), 3) := by decide +kernel
theorem dX7_field_52 : decode cX7_field 52 = .ok (.iload_n 2, 1) := by decide +kernel
theorem dX7_field_53 : decode cX7_field 53 = .ok (.tableswitch 52 0 3 #[31, 38, 40, 46], 31) := by decide +kernel
theorem dX7_field_84 : decode cX7_field 84 = .ok (.aload_n 0, 1) := by decide +kernel
theorem dX7_field_85 : decode cX7_field 85 = .ok (.getfield 20, 3) := by decide +kernel
theorem dX7_field_88 : decode cX7_field 88 = .ok (.iload_n 1, 1) := by decide +kernel
theorem dX7_field_89 : decode cX7_field 89 = .ok (.iaload, 1) := by decide +kernel
theorem dX7_field_90 : decode cX7_field 90 = .ok (.ireturn, 1) := by decide +kernel
theorem dX7_field_91 : decode cX7_field 91 = .ok (.iload_n 3, 1) := by decide +kernel
theorem dX7_field_92 : decode cX7_field 92 = .ok (.ireturn, 1) := by decide +kernel
theorem dX7_field_93 : decode cX7_field 93 = .ok (.aload_n 0, 1) := by decide +kernel
theorem dX7_field_94 : decode cX7_field 94 = .ok (.iload_n 1, 1) := by decide +kernel
theorem dX7_field_95 : decode cX7_field 95 = .ok (.invokevirtual 191, 3) := by decide +kernel
theorem dX7_field_98 : decode cX7_field 98 = .ok (.ireturn, 1) := by decide +kernel
theorem dX7_field_99 : decode cX7_field 99 = .ok (.aload_n 0, 1) := by decide +kernel
theorem dX7_field_100 : decode cX7_field 100 = .ok (.iload_n 1, 1) := by decide +kernel
theorem dX7_field_101 : decode cX7_field 101 = .ok (.invokevirtual 184, 3) := by decide +kernel
theorem dX7_field_104 : decode cX7_field 104 = .ok (.ireturn, 1) := by decide +kernel
theorem dX7_field_105 : decode cX7_field 105 = .ok (.bipush (-3), 2) := by decide +kernel
theorem dX7_field_107 : decode cX7_field 107 = .ok (.ireturn, 1) := by decide +kernel
theorem dX7_as_0 : decode cX7_as 0 = .ok (.iload_n 1, 1) := by decide +kernel
theorem dX7_as_1 : decode cX7_as 1 = .ok (.invokestatic 169, 3) := by decide +kernel
theorem dX7_as_4 : decode cX7_as 4 = .ok (.ifCond .ne 6, 3) := by decide +kernel
theorem dX7_as_7 : decode cX7_as 7 = .ok (.bipush (-2), 2) := by decide +kernel
theorem dX7_as_9 : decode cX7_as 9 = .ok (.ireturn, 1) := by decide +kernel
theorem dX7_as_10 : decode cX7_as 10 = .ok (.iload_n 2, 1) := by decide +kernel
theorem dX7_as_11 : decode cX7_as 11 = .ok (.iconst 0, 1) := by decide +kernel
theorem dX7_as_12 : decode cX7_as 12 = .ok (.iconst 4, 1) := by decide +kernel
theorem dX7_as_13 : decode cX7_as 13 = .ok (.invokestatic 65, 3) := by decide +kernel
theorem dX7_as_16 : decode cX7_as 16 = .ok (.ifCond .ne 6, 3) := by decide +kernel
theorem dX7_as_19 : decode cX7_as 19 = .ok (.bipush (-3), 2) := by decide +kernel
theorem dX7_as_21 : decode cX7_as 21 = .ok (.ireturn, 1) := by decide +kernel
theorem dX7_as_22 : decode cX7_as 22 = .ok (.aload_n 0, 1) := by decide +kernel
theorem dX7_as_23 : decode cX7_as 23 = .ok (.getfield 20, 3) := by decide +kernel
theorem dX7_as_26 : decode cX7_as 26 = .ok (.iload_n 1, 1) := by decide +kernel
theorem dX7_as_27 : decode cX7_as 27 = .ok (.iaload, 1) := by decide +kernel
theorem dX7_as_28 : decode cX7_as 28 = .ok (.istore_n 3, 1) := by decide +kernel
theorem dX7_as_29 : decode cX7_as 29 = .ok (.iload_n 2, 1) := by decide +kernel
theorem dX7_as_30 : decode cX7_as 30 = .ok (.ifCond .eq 27, 3) := by decide +kernel
theorem dX7_as_33 : decode cX7_as 33 = .ok (.iload_n 2, 1) := by decide +kernel
theorem dX7_as_34 : decode cX7_as 34 = .ok (.iconst 1, 1) := by decide +kernel
theorem dX7_as_35 : decode cX7_as 35 = .ok (.if_icmp .ne 15, 3) := by decide +kernel
theorem dX7_as_38 : decode cX7_as 38 = .ok (.iload_n 3, 1) := by decide +kernel
theorem dX7_as_39 : decode cX7_as 39 = .ok (.iconst 1, 1) := by decide +kernel
theorem dX7_as_40 : decode cX7_as 40 = .ok (.iconst 2, 1) := by decide +kernel
theorem dX7_as_41 : decode cX7_as 41 = .ok (.invokestatic 65, 3) := by decide +kernel
theorem dX7_as_44 : decode cX7_as 44 = .ok (.ifCond .eq 17, 3) := by decide +kernel
theorem dX7_as_47 : decode cX7_as 47 = .ok (.goto 10, 3) := by decide +kernel
theorem dX7_as_50 : decode cX7_as 50 = .ok (.iload_n 3, 1) := by decide +kernel
theorem dX7_as_51 : decode cX7_as 51 = .ok (.iload_n 2, 1) := by decide +kernel
theorem dX7_as_52 : decode cX7_as 52 = .ok (.iconst 1, 1) := by decide +kernel
theorem dX7_as_53 : decode cX7_as 53 = .ok (.isub, 1) := by decide +kernel
theorem dX7_as_54 : decode cX7_as 54 = .ok (.if_icmp .ne 7, 3) := by decide +kernel
theorem dX7_as_57 : decode cX7_as 57 = .ok (.iconst 1, 1) := by decide +kernel
theorem dX7_as_58 : decode cX7_as 58 = .ok (.goto 4, 3) := by decide +kernel
theorem dX7_as_61 : decode cX7_as 61 = .ok (.iconst 0, 1) := by decide +kernel
theorem dX7_as_62 : decode cX7_as 62 = .ok (.istore 4, 2) := by decide +kernel
theorem dX7_as_64 : decode cX7_as 64 = .ok (.iload 4, 2) := by decide +kernel
theorem dX7_as_66 : decode cX7_as 66 = .ok (.ifCond .eq 11, 3) := by decide +kernel
theorem dX7_as_69 : decode cX7_as 69 = .ok (.aload_n 0, 1) := by decide +kernel
theorem dX7_as_70 : decode cX7_as 70 = .ok (.iload_n 1, 1) := by decide +kernel
theorem dX7_as_71 : decode cX7_as 71 = .ok (.invokevirtual 191, 3) := by decide +kernel
theorem dX7_as_74 : decode cX7_as 74 = .ok (.goto 5, 3) := by decide +kernel
theorem dX7_as_77 : decode cX7_as 77 = .ok (.bipush (-4), 2) := by decide +kernel
theorem dX7_as_79 : decode cX7_as 79 = .ok (.ireturn, 1) := by decide +kernel
theorem dX7_rotate_0 : decode cX7_rotate 0 = .ok (.iload_n 1, 1) := by decide +kernel
theorem dX7_rotate_1 : decode cX7_rotate 1 = .ok (.invokestatic 169, 3) := by decide +kernel
theorem dX7_rotate_4 : decode cX7_rotate 4 = .ok (.ifCond .eq 10, 3) := by decide +kernel
theorem dX7_rotate_7 : decode cX7_rotate 7 = .ok (.iload_n 2, 1) := by decide +kernel
theorem dX7_rotate_8 : decode cX7_rotate 8 = .ok (.invokestatic 172, 3) := by decide +kernel
theorem dX7_rotate_11 : decode cX7_rotate 11 = .ok (.ifCond .ne 6, 3) := by decide +kernel
theorem dX7_rotate_14 : decode cX7_rotate 14 = .ok (.bipush (-2), 2) := by decide +kernel
theorem dX7_rotate_16 : decode cX7_rotate 16 = .ok (.ireturn, 1) := by decide +kernel
theorem dX7_rotate_17 : decode cX7_rotate 17 = .ok (.aload_n 0, 1) := by decide +kernel
theorem dX7_rotate_18 : decode cX7_rotate 18 = .ok (.iload_n 1, 1) := by decide +kernel
theorem dX7_rotate_19 : decode cX7_rotate 19 = .ok (.iload_n 2, 1) := by decide +kernel
theorem dX7_rotate_20 : decode cX7_rotate 20 = .ok (.invokevirtual 181, 3) := by decide +kernel
theorem dX7_rotate_23 : decode cX7_rotate 23 = .ok (.iconst 0, 1) := by decide +kernel
theorem dX7_rotate_24 : decode cX7_rotate 24 = .ok (.istore_n 3, 1) := by decide +kernel
theorem dX7_rotate_25 : decode cX7_rotate 25 = .ok (.iload_n 3, 1) := by decide +kernel
theorem dX7_rotate_26 : decode cX7_rotate 26 = .ok (.bipush 12, 2) := by decide +kernel
theorem dX7_rotate_28 : decode cX7_rotate 28 = .ok (.if_icmp .ge 26, 3) := by decide +kernel
theorem dX7_rotate_31 : decode cX7_rotate 31 = .ok (.aload_n 0, 1) := by decide +kernel
theorem dX7_rotate_32 : decode cX7_rotate 32 = .ok (.getfield 41, 3) := by decide +kernel
theorem dX7_rotate_35 : decode cX7_rotate 35 = .ok (.aload_n 0, 1) := by decide +kernel
theorem dX7_rotate_36 : decode cX7_rotate 36 = .ok (.getfield 35, 3) := by decide +kernel
theorem dX7_rotate_39 : decode cX7_rotate 39 = .ok (.iload_n 3, 1) := by decide +kernel
theorem dX7_rotate_40 : decode cX7_rotate 40 = .ok (.iaload, 1) := by decide +kernel
theorem dX7_rotate_41 : decode cX7_rotate 41 = .ok (.aload_n 0, 1) := by decide +kernel
theorem dX7_rotate_42 : decode cX7_rotate 42 = .ok (.getfield 20, 3) := by decide +kernel
theorem dX7_rotate_45 : decode cX7_rotate 45 = .ok (.iload_n 3, 1) := by decide +kernel
theorem dX7_rotate_46 : decode cX7_rotate 46 = .ok (.iaload, 1) := by decide +kernel
theorem dX7_rotate_47 : decode cX7_rotate 47 = .ok (.iastore, 1) := by decide +kernel
theorem dX7_rotate_48 : decode cX7_rotate 48 = .ok (.iinc 3 1, 3) := by decide +kernel
theorem dX7_rotate_51 : decode cX7_rotate 51 = .ok (.goto (-26), 3) := by decide +kernel
theorem dX7_rotate_54 : decode cX7_rotate 54 = .ok (.iconst 0, 1) := by decide +kernel
theorem dX7_rotate_55 : decode cX7_rotate 55 = .ok (.istore_n 3, 1) := by decide +kernel
theorem dX7_rotate_56 : decode cX7_rotate 56 = .ok (.iconst 0, 1) := by decide +kernel
theorem dX7_rotate_57 : decode cX7_rotate 57 = .ok (.istore 4, 2) := by decide +kernel
theorem dX7_rotate_59 : decode cX7_rotate 59 = .ok (.iload 4, 2) := by decide +kernel
theorem dX7_rotate_61 : decode cX7_rotate 61 = .ok (.bipush 12, 2) := by decide +kernel
theorem dX7_rotate_63 : decode cX7_rotate 63 = .ok (.if_icmp .ge 48, 3) := by decide +kernel
theorem dX7_rotate_66 : decode cX7_rotate 66 = .ok (.iload_n 3, 1) := by decide +kernel
theorem dX7_rotate_67 : decode cX7_rotate 67 = .ok (.aload_n 0, 1) := by decide +kernel
theorem dX7_rotate_68 : decode cX7_rotate 68 = .ok (.getfield 41, 3) := by decide +kernel
theorem dX7_rotate_71 : decode cX7_rotate 71 = .ok (.iload 4, 2) := by decide +kernel
theorem dX7_rotate_73 : decode cX7_rotate 73 = .ok (.iaload, 1) := by decide +kernel
theorem dX7_rotate_74 : decode cX7_rotate 74 = .ok (.aload_n 0, 1) := by decide +kernel
theorem dX7_rotate_75 : decode cX7_rotate 75 = .ok (.getfield 20, 3) := by decide +kernel
theorem dX7_rotate_78 : decode cX7_rotate 78 = .ok (.iload 4, 2) := by decide +kernel
theorem dX7_rotate_80 : decode cX7_rotate 80 = .ok (.iaload, 1) := by decide +kernel
theorem dX7_rotate_81 : decode cX7_rotate 81 = .ok (.if_icmp .ne 7, 3) := by decide +kernel
theorem dX7_rotate_84 : decode cX7_rotate 84 = .ok (.iconst 0, 1) := by decide +kernel
theorem dX7_rotate_85 : decode cX7_rotate 85 = .ok (.goto 4, 3) := by decide +kernel
theorem dX7_rotate_88 : decode cX7_rotate 88 = .ok (.iconst 1, 1) := by decide +kernel
theorem dX7_rotate_89 : decode cX7_rotate 89 = .ok (.iadd, 1) := by decide +kernel
theorem dX7_rotate_90 : decode cX7_rotate 90 = .ok (.istore_n 3, 1) := by decide +kernel
theorem dX7_rotate_91 : decode cX7_rotate 91 = .ok (.aload_n 0, 1) := by decide +kernel
theorem dX7_rotate_92 : decode cX7_rotate 92 = .ok (.getfield 20, 3) := by decide +kernel
theorem dX7_rotate_95 : decode cX7_rotate 95 = .ok (.iload 4, 2) := by decide +kernel
theorem dX7_rotate_97 : decode cX7_rotate 97 = .ok (.aload_n 0, 1) := by decide +kernel
theorem dX7_rotate_98 : decode cX7_rotate 98 = .ok (.getfield 41, 3) := by decide +kernel
theorem dX7_rotate_101 : decode cX7_rotate 101 = .ok (.iload 4, 2) := by decide +kernel
theorem dX7_rotate_103 : decode cX7_rotate 103 = .ok (.iaload, 1) := by decide +kernel
theorem dX7_rotate_104 : decode cX7_rotate 104 = .ok (.iastore, 1) := by decide +kernel
theorem dX7_rotate_105 : decode cX7_rotate 105 = .ok (.iinc 4 1, 3) := by decide +kernel
theorem dX7_rotate_108 : decode cX7_rotate 108 = .ok (.goto (-49), 3) := by decide +kernel
theorem dX7_rotate_111 : decode cX7_rotate 111 = .ok (.iload_n 3, 1) := by decide +kernel
theorem dX7_rotate_112 : decode cX7_rotate 112 = .ok (.ireturn, 1) := by decide +kernel
theorem dX7_step_0 : decode cX7_step 0 = .ok (.iload_n 1, 1) := by decide +kernel
theorem dX7_step_1 : decode cX7_step 1 = .ok (.iconst 0, 1) := by decide +kernel
theorem dX7_step_2 : decode cX7_step 2 = .ok (.iconst 4, 1) := by decide +kernel
theorem dX7_step_3 : decode cX7_step 3 = .ok (.invokestatic 65, 3) := by decide +kernel
theorem dX7_step_6 : decode cX7_step 6 = .ok (.ifCond .ne 6, 3) := by decide +kernel
theorem dX7_step_9 : decode cX7_step 9 = .ok (.bipush (-3), 2) := by decide +kernel
theorem dX7_step_11 : decode cX7_step 11 = .ok (.ireturn, 1) := by decide +kernel
theorem dX7_step_12 : decode cX7_step 12 = .ok (.iconst 5, 1) := by decide +kernel
theorem dX7_step_13 : decode cX7_step 13 = .ok (.aload_n 0, 1) := by decide +kernel
theorem dX7_step_14 : decode cX7_step 14 = .ok (.getfield 160, 3) := by decide +kernel
theorem dX7_step_17 : decode cX7_step 17 = .ok (.imul, 1) := by decide +kernel
theorem dX7_step_18 : decode cX7_step 18 = .ok (.aload_n 0, 1) := by decide +kernel
theorem dX7_step_19 : decode cX7_step 19 = .ok (.getfield 163, 3) := by decide +kernel
theorem dX7_step_22 : decode cX7_step 22 = .ok (.iload_n 1, 1) := by decide +kernel
theorem dX7_step_23 : decode cX7_step 23 = .ok (.iadd, 1) := by decide +kernel
theorem dX7_step_24 : decode cX7_step 24 = .ok (.iconst 5, 1) := by decide +kernel
theorem dX7_step_25 : decode cX7_step 25 = .ok (.irem, 1) := by decide +kernel
theorem dX7_step_26 : decode cX7_step 26 = .ok (.iadd, 1) := by decide +kernel
theorem dX7_step_27 : decode cX7_step 27 = .ok (.istore_n 2, 1) := by decide +kernel
theorem dX7_step_28 : decode cX7_step 28 = .ok (.aload_n 0, 1) := by decide +kernel
theorem dX7_step_29 : decode cX7_step 29 = .ok (.getfield 13, 3) := by decide +kernel
theorem dX7_step_32 : decode cX7_step 32 = .ok (.iload_n 2, 1) := by decide +kernel
theorem dX7_step_33 : decode cX7_step 33 = .ok (.baload, 1) := by decide +kernel
theorem dX7_step_34 : decode cX7_step 34 = .ok (.ifCond .eq 6, 3) := by decide +kernel
theorem dX7_step_37 : decode cX7_step 37 = .ok (.bipush (-4), 2) := by decide +kernel
theorem dX7_step_39 : decode cX7_step 39 = .ok (.ireturn, 1) := by decide +kernel
theorem dX7_step_40 : decode cX7_step 40 = .ok (.aload_n 0, 1) := by decide +kernel
theorem dX7_step_41 : decode cX7_step 41 = .ok (.getfield 166, 3) := by decide +kernel
theorem dX7_step_44 : decode cX7_step 44 = .ok (.sipush 9999, 3) := by decide +kernel
theorem dX7_step_47 : decode cX7_step 47 = .ok (.if_icmp .ne 6, 3) := by decide +kernel
theorem dX7_step_50 : decode cX7_step 50 = .ok (.bipush (-5), 2) := by decide +kernel
theorem dX7_step_52 : decode cX7_step 52 = .ok (.ireturn, 1) := by decide +kernel
theorem dX7_step_53 : decode cX7_step 53 = .ok (.aload_n 0, 1) := by decide +kernel
theorem dX7_step_54 : decode cX7_step 54 = .ok (.getfield 160, 3) := by decide +kernel
theorem dX7_step_57 : decode cX7_step 57 = .ok (.istore_n 3, 1) := by decide +kernel
theorem dX7_step_58 : decode cX7_step 58 = .ok (.aload_n 0, 1) := by decide +kernel
theorem dX7_step_59 : decode cX7_step 59 = .ok (.aload_n 0, 1) := by decide +kernel
theorem dX7_step_60 : decode cX7_step 60 = .ok (.getfield 7, 3) := by decide +kernel
theorem dX7_step_63 : decode cX7_step 63 = .ok (.iload_n 2, 1) := by decide +kernel
theorem dX7_step_64 : decode cX7_step 64 = .ok (.iaload, 1) := by decide +kernel
theorem dX7_step_65 : decode cX7_step 65 = .ok (.putfield 160, 3) := by decide +kernel
theorem dX7_step_68 : decode cX7_step 68 = .ok (.aload_n 0, 1) := by decide +kernel
theorem dX7_step_69 : decode cX7_step 69 = .ok (.aload_n 0, 1) := by decide +kernel
theorem dX7_step_70 : decode cX7_step 70 = .ok (.aload_n 0, 1) := by decide +kernel
theorem dX7_step_71 : decode cX7_step 71 = .ok (.getfield 160, 3) := by decide +kernel
theorem dX7_step_74 : decode cX7_step 74 = .ok (.iload_n 3, 1) := by decide +kernel
theorem dX7_step_75 : decode cX7_step 75 = .ok (.invokevirtual 117, 3) := by decide +kernel
theorem dX7_step_78 : decode cX7_step 78 = .ok (.putfield 163, 3) := by decide +kernel
theorem dX7_step_81 : decode cX7_step 81 = .ok (.aload_n 0, 1) := by decide +kernel
theorem dX7_step_82 : decode cX7_step 82 = .ok (.dup, 1) := by decide +kernel
theorem dX7_step_83 : decode cX7_step 83 = .ok (.getfield 166, 3) := by decide +kernel
theorem dX7_step_86 : decode cX7_step 86 = .ok (.iconst 1, 1) := by decide +kernel
theorem dX7_step_87 : decode cX7_step 87 = .ok (.iadd, 1) := by decide +kernel
theorem dX7_step_88 : decode cX7_step 88 = .ok (.putfield 166, 3) := by decide +kernel
theorem dX7_step_91 : decode cX7_step 91 = .ok (.aload_n 0, 1) := by decide +kernel
theorem dX7_step_92 : decode cX7_step 92 = .ok (.getfield 160, 3) := by decide +kernel
theorem dX7_step_95 : decode cX7_step 95 = .ok (.ireturn, 1) := by decide +kernel
theorem dX7_walker_0 : decode cX7_walker 0 = .ok (.iload_n 1, 1) := by decide +kernel
theorem dX7_walker_1 : decode cX7_walker 1 = .ok (.ifCond .ne 10, 3) := by decide +kernel
theorem dX7_walker_4 : decode cX7_walker 4 = .ok (.aload_n 0, 1) := by decide +kernel
theorem dX7_walker_5 : decode cX7_walker 5 = .ok (.getfield 160, 3) := by decide +kernel
theorem dX7_walker_8 : decode cX7_walker 8 = .ok (.goto 29, 3) := by decide +kernel
theorem dX7_walker_11 : decode cX7_walker 11 = .ok (.iload_n 1, 1) := by decide +kernel
theorem dX7_walker_12 : decode cX7_walker 12 = .ok (.iconst 1, 1) := by decide +kernel
theorem dX7_walker_13 : decode cX7_walker 13 = .ok (.if_icmp .ne 10, 3) := by decide +kernel
theorem dX7_walker_16 : decode cX7_walker 16 = .ok (.aload_n 0, 1) := by decide +kernel
theorem dX7_walker_17 : decode cX7_walker 17 = .ok (.getfield 163, 3) := by decide +kernel
theorem dX7_walker_20 : decode cX7_walker 20 = .ok (.goto 17, 3) := by decide +kernel
theorem dX7_walker_23 : decode cX7_walker 23 = .ok (.iload_n 1, 1) := by decide +kernel
theorem dX7_walker_24 : decode cX7_walker 24 = .ok (.iconst 2, 1) := by decide +kernel
theorem dX7_walker_25 : decode cX7_walker 25 = .ok (.if_icmp .ne 10, 3) := by decide +kernel
theorem dX7_walker_28 : decode cX7_walker 28 = .ok (.aload_n 0, 1) := by decide +kernel
theorem dX7_walker_29 : decode cX7_walker 29 = .ok (.getfield 166, 3) := by decide +kernel
theorem dX7_walker_32 : decode cX7_walker 32 = .ok (.goto 5, 3) := by decide +kernel
theorem dX7_walker_35 : decode cX7_walker 35 = .ok (.bipush (-3), 2) := by decide +kernel
theorem dX7_walker_37 : decode cX7_walker 37 = .ok (.ireturn, 1) := by decide +kernel
theorem dX7_keep_0 : decode cX7_keep 0 = .ok (.iload_n 1, 1) := by decide +kernel
theorem dX7_keep_1 : decode cX7_keep 1 = .ok (.iconst 0, 1) := by decide +kernel
theorem dX7_keep_2 : decode cX7_keep 2 = .ok (.iconst 1, 1) := by decide +kernel
theorem dX7_keep_3 : decode cX7_keep 3 = .ok (.invokestatic 65, 3) := by decide +kernel
theorem dX7_keep_6 : decode cX7_keep 6 = .ok (.ifCond .ne 6, 3) := by decide +kernel
theorem dX7_keep_9 : decode cX7_keep 9 = .ok (.bipush (-2), 2) := by decide +kernel
theorem dX7_keep_11 : decode cX7_keep 11 = .ok (.ireturn, 1) := by decide +kernel
theorem dX7_keep_12 : decode cX7_keep 12 = .ok (.iconst 0, 1) := by decide +kernel
theorem dX7_keep_13 : decode cX7_keep 13 = .ok (.istore_n 2, 1) := by decide +kernel
theorem dX7_keep_14 : decode cX7_keep 14 = .ok (.iload_n 2, 1) := by decide +kernel
theorem dX7_keep_15 : decode cX7_keep 15 = .ok (.bipush 12, 2) := by decide +kernel
theorem dX7_keep_17 : decode cX7_keep 17 = .ok (.if_icmp .ge 26, 3) := by decide +kernel
theorem dX7_keep_20 : decode cX7_keep 20 = .ok (.aload_n 0, 1) := by decide +kernel
theorem dX7_keep_21 : decode cX7_keep 21 = .ok (.getfield 29, 3) := by decide +kernel
theorem dX7_keep_24 : decode cX7_keep 24 = .ok (.bipush 15, 2) := by decide +kernel
theorem dX7_keep_26 : decode cX7_keep 26 = .ok (.iload_n 1, 1) := by decide +kernel
theorem dX7_keep_27 : decode cX7_keep 27 = .ok (.imul, 1) := by decide +kernel
theorem dX7_keep_28 : decode cX7_keep 28 = .ok (.iload_n 2, 1) := by decide +kernel
theorem dX7_keep_29 : decode cX7_keep 29 = .ok (.iadd, 1) := by decide +kernel
theorem dX7_keep_30 : decode cX7_keep 30 = .ok (.aload_n 0, 1) := by decide +kernel
theorem dX7_keep_31 : decode cX7_keep 31 = .ok (.getfield 20, 3) := by decide +kernel
theorem dX7_keep_34 : decode cX7_keep 34 = .ok (.iload_n 2, 1) := by decide +kernel
theorem dX7_keep_35 : decode cX7_keep 35 = .ok (.iaload, 1) := by decide +kernel
theorem dX7_keep_36 : decode cX7_keep 36 = .ok (.iastore, 1) := by decide +kernel
theorem dX7_keep_37 : decode cX7_keep 37 = .ok (.iinc 2 1, 3) := by decide +kernel
theorem dX7_keep_40 : decode cX7_keep 40 = .ok (.goto (-26), 3) := by decide +kernel
theorem dX7_keep_43 : decode cX7_keep 43 = .ok (.aload_n 0, 1) := by decide +kernel
theorem dX7_keep_44 : decode cX7_keep 44 = .ok (.getfield 29, 3) := by decide +kernel
theorem dX7_keep_47 : decode cX7_keep 47 = .ok (.bipush 15, 2) := by decide +kernel
theorem dX7_keep_49 : decode cX7_keep 49 = .ok (.iload_n 1, 1) := by decide +kernel
theorem dX7_keep_50 : decode cX7_keep 50 = .ok (.imul, 1) := by decide +kernel
theorem dX7_keep_51 : decode cX7_keep 51 = .ok (.bipush 12, 2) := by decide +kernel
theorem dX7_keep_53 : decode cX7_keep 53 = .ok (.iadd, 1) := by decide +kernel
theorem dX7_keep_54 : decode cX7_keep 54 = .ok (.aload_n 0, 1) := by decide +kernel
theorem dX7_keep_55 : decode cX7_keep 55 = .ok (.getfield 160, 3) := by decide +kernel
theorem dX7_keep_58 : decode cX7_keep 58 = .ok (.iastore, 1) := by decide +kernel
theorem dX7_keep_59 : decode cX7_keep 59 = .ok (.aload_n 0, 1) := by decide +kernel
theorem dX7_keep_60 : decode cX7_keep 60 = .ok (.getfield 29, 3) := by decide +kernel
theorem dX7_keep_63 : decode cX7_keep 63 = .ok (.bipush 15, 2) := by decide +kernel
theorem dX7_keep_65 : decode cX7_keep 65 = .ok (.iload_n 1, 1) := by decide +kernel
theorem dX7_keep_66 : decode cX7_keep 66 = .ok (.imul, 1) := by decide +kernel
theorem dX7_keep_67 : decode cX7_keep 67 = .ok (.bipush 13, 2) := by decide +kernel
theorem dX7_keep_69 : decode cX7_keep 69 = .ok (.iadd, 1) := by decide +kernel
theorem dX7_keep_70 : decode cX7_keep 70 = .ok (.aload_n 0, 1) := by decide +kernel
theorem dX7_keep_71 : decode cX7_keep 71 = .ok (.getfield 163, 3) := by decide +kernel
theorem dX7_keep_74 : decode cX7_keep 74 = .ok (.iastore, 1) := by decide +kernel
theorem dX7_keep_75 : decode cX7_keep 75 = .ok (.aload_n 0, 1) := by decide +kernel
theorem dX7_keep_76 : decode cX7_keep 76 = .ok (.getfield 29, 3) := by decide +kernel
theorem dX7_keep_79 : decode cX7_keep 79 = .ok (.bipush 15, 2) := by decide +kernel
theorem dX7_keep_81 : decode cX7_keep 81 = .ok (.iload_n 1, 1) := by decide +kernel
theorem dX7_keep_82 : decode cX7_keep 82 = .ok (.imul, 1) := by decide +kernel
theorem dX7_keep_83 : decode cX7_keep 83 = .ok (.bipush 14, 2) := by decide +kernel
theorem dX7_keep_85 : decode cX7_keep 85 = .ok (.iadd, 1) := by decide +kernel
theorem dX7_keep_86 : decode cX7_keep 86 = .ok (.aload_n 0, 1) := by decide +kernel
theorem dX7_keep_87 : decode cX7_keep 87 = .ok (.getfield 166, 3) := by decide +kernel
theorem dX7_keep_90 : decode cX7_keep 90 = .ok (.iastore, 1) := by decide +kernel
theorem dX7_keep_91 : decode cX7_keep 91 = .ok (.aload_n 0, 1) := by decide +kernel
theorem dX7_keep_92 : decode cX7_keep 92 = .ok (.getfield 32, 3) := by decide +kernel
theorem dX7_keep_95 : decode cX7_keep 95 = .ok (.iload_n 1, 1) := by decide +kernel
theorem dX7_keep_96 : decode cX7_keep 96 = .ok (.iconst 1, 1) := by decide +kernel
theorem dX7_keep_97 : decode cX7_keep 97 = .ok (.bastore, 1) := by decide +kernel
theorem dX7_keep_98 : decode cX7_keep 98 = .ok (.aload_n 0, 1) := by decide +kernel
theorem dX7_keep_99 : decode cX7_keep 99 = .ok (.getfield 166, 3) := by decide +kernel
theorem dX7_keep_102 : decode cX7_keep 102 = .ok (.ireturn, 1) := by decide +kernel
theorem dX7_back_0 : decode cX7_back 0 = .ok (.iload_n 1, 1) := by decide +kernel
theorem dX7_back_1 : decode cX7_back 1 = .ok (.iconst 0, 1) := by decide +kernel
theorem dX7_back_2 : decode cX7_back 2 = .ok (.iconst 1, 1) := by decide +kernel
theorem dX7_back_3 : decode cX7_back 3 = .ok (.invokestatic 65, 3) := by decide +kernel
theorem dX7_back_6 : decode cX7_back 6 = .ok (.ifCond .ne 6, 3) := by decide +kernel
theorem dX7_back_9 : decode cX7_back 9 = .ok (.bipush (-2), 2) := by decide +kernel
theorem dX7_back_11 : decode cX7_back 11 = .ok (.ireturn, 1) := by decide +kernel
theorem dX7_back_12 : decode cX7_back 12 = .ok (.aload_n 0, 1) := by decide +kernel
theorem dX7_back_13 : decode cX7_back 13 = .ok (.getfield 32, 3) := by decide +kernel
theorem dX7_back_16 : decode cX7_back 16 = .ok (.iload_n 1, 1) := by decide +kernel
theorem dX7_back_17 : decode cX7_back 17 = .ok (.baload, 1) := by decide +kernel
theorem dX7_back_18 : decode cX7_back 18 = .ok (.ifCond .ne 6, 3) := by decide +kernel
theorem dX7_back_21 : decode cX7_back 21 = .ok (.bipush (-4), 2) := by decide +kernel
theorem dX7_back_23 : decode cX7_back 23 = .ok (.ireturn, 1) := by decide +kernel
theorem dX7_back_24 : decode cX7_back 24 = .ok (.iconst 0, 1) := by decide +kernel
theorem dX7_back_25 : decode cX7_back 25 = .ok (.istore_n 2, 1) := by decide +kernel
theorem dX7_back_26 : decode cX7_back 26 = .ok (.iload_n 2, 1) := by decide +kernel
theorem dX7_back_27 : decode cX7_back 27 = .ok (.bipush 12, 2) := by decide +kernel
theorem dX7_back_29 : decode cX7_back 29 = .ok (.if_icmp .ge 26, 3) := by decide +kernel
theorem dX7_back_32 : decode cX7_back 32 = .ok (.aload_n 0, 1) := by decide +kernel
theorem dX7_back_33 : decode cX7_back 33 = .ok (.getfield 20, 3) := by decide +kernel
theorem dX7_back_36 : decode cX7_back 36 = .ok (.iload_n 2, 1) := by decide +kernel
theorem dX7_back_37 : decode cX7_back 37 = .ok (.aload_n 0, 1) := by decide +kernel
theorem dX7_back_38 : decode cX7_back 38 = .ok (.getfield 29, 3) := by decide +kernel
theorem dX7_back_41 : decode cX7_back 41 = .ok (.bipush 15, 2) := by decide +kernel
theorem dX7_back_43 : decode cX7_back 43 = .ok (.iload_n 1, 1) := by decide +kernel
theorem dX7_back_44 : decode cX7_back 44 = .ok (.imul, 1) := by decide +kernel
theorem dX7_back_45 : decode cX7_back 45 = .ok (.iload_n 2, 1) := by decide +kernel
theorem dX7_back_46 : decode cX7_back 46 = .ok (.iadd, 1) := by decide +kernel
theorem dX7_back_47 : decode cX7_back 47 = .ok (.iaload, 1) := by decide +kernel
theorem dX7_back_48 : decode cX7_back 48 = .ok (.iastore, 1) := by decide +kernel
theorem dX7_back_49 : decode cX7_back 49 = .ok (.iinc 2 1, 3) := by decide +kernel
theorem dX7_back_52 : decode cX7_back 52 = .ok (.goto (-26), 3) := by decide +kernel
theorem dX7_back_55 : decode cX7_back 55 = .ok (.aload_n 0, 1) := by decide +kernel
theorem dX7_back_56 : decode cX7_back 56 = .ok (.aload_n 0, 1) := by decide +kernel
theorem dX7_back_57 : decode cX7_back 57 = .ok (.getfield 29, 3) := by decide +kernel
theorem dX7_back_60 : decode cX7_back 60 = .ok (.bipush 15, 2) := by decide +kernel
theorem dX7_back_62 : decode cX7_back 62 = .ok (.iload_n 1, 1) := by decide +kernel
theorem dX7_back_63 : decode cX7_back 63 = .ok (.imul, 1) := by decide +kernel
theorem dX7_back_64 : decode cX7_back 64 = .ok (.bipush 12, 2) := by decide +kernel
theorem dX7_back_66 : decode cX7_back 66 = .ok (.iadd, 1) := by decide +kernel
theorem dX7_back_67 : decode cX7_back 67 = .ok (.iaload, 1) := by decide +kernel
theorem dX7_back_68 : decode cX7_back 68 = .ok (.putfield 160, 3) := by decide +kernel
theorem dX7_back_71 : decode cX7_back 71 = .ok (.aload_n 0, 1) := by decide +kernel
theorem dX7_back_72 : decode cX7_back 72 = .ok (.aload_n 0, 1) := by decide +kernel
theorem dX7_back_73 : decode cX7_back 73 = .ok (.getfield 29, 3) := by decide +kernel
theorem dX7_back_76 : decode cX7_back 76 = .ok (.bipush 15, 2) := by decide +kernel
theorem dX7_back_78 : decode cX7_back 78 = .ok (.iload_n 1, 1) := by decide +kernel
theorem dX7_back_79 : decode cX7_back 79 = .ok (.imul, 1) := by decide +kernel
theorem dX7_back_80 : decode cX7_back 80 = .ok (.bipush 13, 2) := by decide +kernel
theorem dX7_back_82 : decode cX7_back 82 = .ok (.iadd, 1) := by decide +kernel
theorem dX7_back_83 : decode cX7_back 83 = .ok (.iaload, 1) := by decide +kernel
theorem dX7_back_84 : decode cX7_back 84 = .ok (.putfield 163, 3) := by decide +kernel
theorem dX7_back_87 : decode cX7_back 87 = .ok (.aload_n 0, 1) := by decide +kernel
theorem dX7_back_88 : decode cX7_back 88 = .ok (.aload_n 0, 1) := by decide +kernel
theorem dX7_back_89 : decode cX7_back 89 = .ok (.getfield 29, 3) := by decide +kernel
theorem dX7_back_92 : decode cX7_back 92 = .ok (.bipush 15, 2) := by decide +kernel
theorem dX7_back_94 : decode cX7_back 94 = .ok (.iload_n 1, 1) := by decide +kernel
theorem dX7_back_95 : decode cX7_back 95 = .ok (.imul, 1) := by decide +kernel
theorem dX7_back_96 : decode cX7_back 96 = .ok (.bipush 14, 2) := by decide +kernel
theorem dX7_back_98 : decode cX7_back 98 = .ok (.iadd, 1) := by decide +kernel
theorem dX7_back_99 : decode cX7_back 99 = .ok (.iaload, 1) := by decide +kernel
theorem dX7_back_100 : decode cX7_back 100 = .ok (.putfield 166, 3) := by decide +kernel
theorem dX7_back_103 : decode cX7_back 103 = .ok (.aload_n 0, 1) := by decide +kernel
theorem dX7_back_104 : decode cX7_back 104 = .ok (.getfield 166, 3) := by decide +kernel
theorem dX7_back_107 : decode cX7_back 107 = .ok (.ireturn, 1) := by decide +kernel
theorem dX7_home_0 : decode cX7_home 0 = .ok (.iload_n 1, 1) := by decide +kernel
theorem dX7_home_1 : decode cX7_home 1 = .ok (.iconst 0, 1) := by decide +kernel
theorem dX7_home_2 : decode cX7_home 2 = .ok (.iconst 4, 1) := by decide +kernel
theorem dX7_home_3 : decode cX7_home 3 = .ok (.invokestatic 65, 3) := by decide +kernel
theorem dX7_home_6 : decode cX7_home 6 = .ok (.ifCond .ne 6, 3) := by decide +kernel
theorem dX7_home_9 : decode cX7_home 9 = .ok (.bipush (-3), 2) := by decide +kernel
theorem dX7_home_11 : decode cX7_home 11 = .ok (.ireturn, 1) := by decide +kernel
theorem dX7_home_12 : decode cX7_home 12 = .ok (.aload_n 0, 1) := by decide +kernel
theorem dX7_home_13 : decode cX7_home 13 = .ok (.getfield 160, 3) := by decide +kernel
theorem dX7_home_16 : decode cX7_home 16 = .ok (.istore_n 2, 1) := by decide +kernel
theorem dX7_home_17 : decode cX7_home 17 = .ok (.aload_n 0, 1) := by decide +kernel
theorem dX7_home_18 : decode cX7_home 18 = .ok (.getfield 163, 3) := by decide +kernel
theorem dX7_home_21 : decode cX7_home 21 = .ok (.istore_n 3, 1) := by decide +kernel
theorem dX7_home_22 : decode cX7_home 22 = .ok (.iconst 0, 1) := by decide +kernel
theorem dX7_home_23 : decode cX7_home 23 = .ok (.istore 4, 2) := by decide +kernel
theorem dX7_home_25 : decode cX7_home 25 = .ok (.iconst 0, 1) := by decide +kernel
theorem dX7_home_26 : decode cX7_home 26 = .ok (.istore 5, 2) := by decide +kernel
theorem dX7_home_28 : decode cX7_home 28 = .ok (.iload 5, 2) := by decide +kernel
theorem dX7_home_30 : decode cX7_home 30 = .ok (.ifCond .ne 76, 3) := by decide +kernel
theorem dX7_home_33 : decode cX7_home 33 = .ok (.iconst 5, 1) := by decide +kernel
theorem dX7_home_34 : decode cX7_home 34 = .ok (.iload_n 2, 1) := by decide +kernel
theorem dX7_home_35 : decode cX7_home 35 = .ok (.imul, 1) := by decide +kernel
theorem dX7_home_36 : decode cX7_home 36 = .ok (.iload_n 3, 1) := by decide +kernel
theorem dX7_home_37 : decode cX7_home 37 = .ok (.iload_n 1, 1) := by decide +kernel
theorem dX7_home_38 : decode cX7_home 38 = .ok (.iadd, 1) := by decide +kernel
theorem dX7_home_39 : decode cX7_home 39 = .ok (.iconst 5, 1) := by decide +kernel
theorem dX7_home_40 : decode cX7_home 40 = .ok (.irem, 1) := by decide +kernel
theorem dX7_home_41 : decode cX7_home 41 = .ok (.iadd, 1) := by decide +kernel
theorem dX7_home_42 : decode cX7_home 42 = .ok (.istore 6, 2) := by decide +kernel
theorem dX7_home_44 : decode cX7_home 44 = .ok (.aload_n 0, 1) := by decide +kernel
theorem dX7_home_45 : decode cX7_home 45 = .ok (.getfield 13, 3) := by decide +kernel
theorem dX7_home_48 : decode cX7_home 48 = .ok (.iload 6, 2) := by decide +kernel
theorem dX7_home_50 : decode cX7_home 50 = .ok (.baload, 1) := by decide +kernel
theorem dX7_home_51 : decode cX7_home 51 = .ok (.ifCond .eq 5, 3) := by decide +kernel
theorem dX7_home_54 : decode cX7_home 54 = .ok (.iconst (-1), 1) := by decide +kernel
theorem dX7_home_55 : decode cX7_home 55 = .ok (.ireturn, 1) := by decide +kernel
theorem dX7_home_56 : decode cX7_home 56 = .ok (.aload_n 0, 1) := by decide +kernel
theorem dX7_home_57 : decode cX7_home 57 = .ok (.aload_n 0, 1) := by decide +kernel
theorem dX7_home_58 : decode cX7_home 58 = .ok (.getfield 7, 3) := by decide +kernel
theorem dX7_home_61 : decode cX7_home 61 = .ok (.iload 6, 2) := by decide +kernel
theorem dX7_home_63 : decode cX7_home 63 = .ok (.iaload, 1) := by decide +kernel
theorem dX7_home_64 : decode cX7_home 64 = .ok (.iload_n 2, 1) := by decide +kernel
theorem dX7_home_65 : decode cX7_home 65 = .ok (.invokevirtual 117, 3) := by decide +kernel
theorem dX7_home_68 : decode cX7_home 68 = .ok (.istore_n 3, 1) := by decide +kernel
theorem dX7_home_69 : decode cX7_home 69 = .ok (.aload_n 0, 1) := by decide +kernel
theorem dX7_home_70 : decode cX7_home 70 = .ok (.getfield 7, 3) := by decide +kernel
theorem dX7_home_73 : decode cX7_home 73 = .ok (.iload 6, 2) := by decide +kernel
theorem dX7_home_75 : decode cX7_home 75 = .ok (.iaload, 1) := by decide +kernel
theorem dX7_home_76 : decode cX7_home 76 = .ok (.istore_n 2, 1) := by decide +kernel
theorem dX7_home_77 : decode cX7_home 77 = .ok (.iinc 4 1, 3) := by decide +kernel
theorem dX7_home_80 : decode cX7_home 80 = .ok (.iload_n 2, 1) := by decide +kernel
theorem dX7_home_81 : decode cX7_home 81 = .ok (.aload_n 0, 1) := by decide +kernel
theorem dX7_home_82 : decode cX7_home 82 = .ok (.getfield 160, 3) := by decide +kernel
theorem dX7_home_85 : decode cX7_home 85 = .ok (.if_icmp .ne 15, 3) := by decide +kernel
theorem dX7_home_88 : decode cX7_home 88 = .ok (.iload_n 3, 1) := by decide +kernel
theorem dX7_home_89 : decode cX7_home 89 = .ok (.aload_n 0, 1) := by decide +kernel
theorem dX7_home_90 : decode cX7_home 90 = .ok (.getfield 163, 3) := by decide +kernel
theorem dX7_home_93 : decode cX7_home 93 = .ok (.if_icmp .ne 7, 3) := by decide +kernel
theorem dX7_home_96 : decode cX7_home 96 = .ok (.iconst 1, 1) := by decide +kernel
theorem dX7_home_97 : decode cX7_home 97 = .ok (.goto 4, 3) := by decide +kernel
theorem dX7_home_100 : decode cX7_home 100 = .ok (.iconst 0, 1) := by decide +kernel
theorem dX7_home_101 : decode cX7_home 101 = .ok (.istore 5, 2) := by decide +kernel
theorem dX7_home_103 : decode cX7_home 103 = .ok (.goto (-75), 3) := by decide +kernel
theorem dX7_home_106 : decode cX7_home 106 = .ok (.iload 4, 2) := by decide +kernel
theorem dX7_home_108 : decode cX7_home 108 = .ok (.ireturn, 1) := by decide +kernel
theorem dX7_alike_0 : decode cX7_alike 0 = .ok (.iconst 0, 1) := by decide +kernel
theorem dX7_alike_1 : decode cX7_alike 1 = .ok (.istore_n 1, 1) := by decide +kernel
theorem dX7_alike_2 : decode cX7_alike 2 = .ok (.iconst 0, 1) := by decide +kernel
theorem dX7_alike_3 : decode cX7_alike 3 = .ok (.istore_n 2, 1) := by decide +kernel
theorem dX7_alike_4 : decode cX7_alike 4 = .ok (.iload_n 2, 1) := by decide +kernel
theorem dX7_alike_5 : decode cX7_alike 5 = .ok (.bipush 60, 2) := by decide +kernel
theorem dX7_alike_7 : decode cX7_alike 7 = .ok (.if_icmp .ge 81, 3) := by decide +kernel
theorem dX7_alike_10 : decode cX7_alike 10 = .ok (.aload_n 0, 1) := by decide +kernel
theorem dX7_alike_11 : decode cX7_alike 11 = .ok (.iload_n 2, 1) := by decide +kernel
theorem dX7_alike_12 : decode cX7_alike 12 = .ok (.iconst 5, 1) := by decide +kernel
theorem dX7_alike_13 : decode cX7_alike 13 = .ok (.idiv, 1) := by decide +kernel
theorem dX7_alike_14 : decode cX7_alike 14 = .ok (.iload_n 2, 1) := by decide +kernel
theorem dX7_alike_15 : decode cX7_alike 15 = .ok (.iconst 5, 1) := by decide +kernel
theorem dX7_alike_16 : decode cX7_alike 16 = .ok (.irem, 1) := by decide +kernel
theorem dX7_alike_17 : decode cX7_alike 17 = .ok (.invokevirtual 181, 3) := by decide +kernel
theorem dX7_alike_20 : decode cX7_alike 20 = .ok (.iconst 1, 1) := by decide +kernel
theorem dX7_alike_21 : decode cX7_alike 21 = .ok (.istore_n 3, 1) := by decide +kernel
theorem dX7_alike_22 : decode cX7_alike 22 = .ok (.iconst 0, 1) := by decide +kernel
theorem dX7_alike_23 : decode cX7_alike 23 = .ok (.istore 4, 2) := by decide +kernel
theorem dX7_alike_25 : decode cX7_alike 25 = .ok (.iload 4, 2) := by decide +kernel
theorem dX7_alike_27 : decode cX7_alike 27 = .ok (.bipush 12, 2) := by decide +kernel
theorem dX7_alike_29 : decode cX7_alike 29 = .ok (.if_icmp .ge 41, 3) := by decide +kernel
theorem dX7_alike_32 : decode cX7_alike 32 = .ok (.iload_n 3, 1) := by decide +kernel
theorem dX7_alike_33 : decode cX7_alike 33 = .ok (.ifCond .eq 29, 3) := by decide +kernel
theorem dX7_alike_36 : decode cX7_alike 36 = .ok (.aload_n 0, 1) := by decide +kernel
theorem dX7_alike_37 : decode cX7_alike 37 = .ok (.getfield 20, 3) := by decide +kernel
theorem dX7_alike_40 : decode cX7_alike 40 = .ok (.aload_n 0, 1) := by decide +kernel
theorem dX7_alike_41 : decode cX7_alike 41 = .ok (.getfield 35, 3) := by decide +kernel
theorem dX7_alike_44 : decode cX7_alike 44 = .ok (.iload 4, 2) := by decide +kernel
theorem dX7_alike_46 : decode cX7_alike 46 = .ok (.iaload, 1) := by decide +kernel
theorem dX7_alike_47 : decode cX7_alike 47 = .ok (.iaload, 1) := by decide +kernel
theorem dX7_alike_48 : decode cX7_alike 48 = .ok (.aload_n 0, 1) := by decide +kernel
theorem dX7_alike_49 : decode cX7_alike 49 = .ok (.getfield 20, 3) := by decide +kernel
theorem dX7_alike_52 : decode cX7_alike 52 = .ok (.iload 4, 2) := by decide +kernel
theorem dX7_alike_54 : decode cX7_alike 54 = .ok (.iaload, 1) := by decide +kernel
theorem dX7_alike_55 : decode cX7_alike 55 = .ok (.if_icmp .ne 7, 3) := by decide +kernel
theorem dX7_alike_58 : decode cX7_alike 58 = .ok (.iconst 1, 1) := by decide +kernel
theorem dX7_alike_59 : decode cX7_alike 59 = .ok (.goto 4, 3) := by decide +kernel
theorem dX7_alike_62 : decode cX7_alike 62 = .ok (.iconst 0, 1) := by decide +kernel
theorem dX7_alike_63 : decode cX7_alike 63 = .ok (.istore_n 3, 1) := by decide +kernel
theorem dX7_alike_64 : decode cX7_alike 64 = .ok (.iinc 4 1, 3) := by decide +kernel
theorem dX7_alike_67 : decode cX7_alike 67 = .ok (.goto (-42), 3) := by decide +kernel
theorem dX7_alike_70 : decode cX7_alike 70 = .ok (.iload_n 1, 1) := by decide +kernel
theorem dX7_alike_71 : decode cX7_alike 71 = .ok (.iload_n 3, 1) := by decide +kernel
theorem dX7_alike_72 : decode cX7_alike 72 = .ok (.ifCond .eq 7, 3) := by decide +kernel
theorem dX7_alike_75 : decode cX7_alike 75 = .ok (.iconst 1, 1) := by decide +kernel
theorem dX7_alike_76 : decode cX7_alike 76 = .ok (.goto 4, 3) := by decide +kernel
theorem dX7_alike_79 : decode cX7_alike 79 = .ok (.iconst 0, 1) := by decide +kernel
theorem dX7_alike_80 : decode cX7_alike 80 = .ok (.iadd, 1) := by decide +kernel
theorem dX7_alike_81 : decode cX7_alike 81 = .ok (.istore_n 1, 1) := by decide +kernel
theorem dX7_alike_82 : decode cX7_alike 82 = .ok (.iinc 2 1, 3) := by decide +kernel
theorem dX7_alike_85 : decode cX7_alike 85 = .ok (.goto (-81), 3) := by decide +kernel
theorem dX7_alike_88 : decode cX7_alike 88 = .ok (.iload_n 1, 1) := by decide +kernel
theorem dX7_alike_89 : decode cX7_alike 89 = .ok (.ireturn, 1) := by decide +kernel
theorem dX7_like_0 : decode cX7_like 0 = .ok (.iload_n 1, 1) := by decide +kernel
theorem dX7_like_1 : decode cX7_like 1 = .ok (.iconst 0, 1) := by decide +kernel
theorem dX7_like_2 : decode cX7_like 2 = .ok (.iconst 1, 1) := by decide +kernel
theorem dX7_like_3 : decode cX7_like 3 = .ok (.invokestatic 65, 3) := by decide +kernel
theorem dX7_like_6 : decode cX7_like 6 = .ok (.ifCond .ne 6, 3) := by decide +kernel
theorem dX7_like_9 : decode cX7_like 9 = .ok (.bipush (-2), 2) := by decide +kernel
theorem dX7_like_11 : decode cX7_like 11 = .ok (.ireturn, 1) := by decide +kernel
theorem dX7_like_12 : decode cX7_like 12 = .ok (.aload_n 0, 1) := by decide +kernel
theorem dX7_like_13 : decode cX7_like 13 = .ok (.getfield 32, 3) := by decide +kernel
theorem dX7_like_16 : decode cX7_like 16 = .ok (.iload_n 1, 1) := by decide +kernel
theorem dX7_like_17 : decode cX7_like 17 = .ok (.baload, 1) := by decide +kernel
theorem dX7_like_18 : decode cX7_like 18 = .ok (.ifCond .ne 6, 3) := by decide +kernel
theorem dX7_like_21 : decode cX7_like 21 = .ok (.bipush (-4), 2) := by decide +kernel
theorem dX7_like_23 : decode cX7_like 23 = .ok (.ireturn, 1) := by decide +kernel
theorem dX7_like_24 : decode cX7_like 24 = .ok (.iconst 0, 1) := by decide +kernel
theorem dX7_like_25 : decode cX7_like 25 = .ok (.istore_n 2, 1) := by decide +kernel
theorem dX7_like_26 : decode cX7_like 26 = .ok (.iconst 0, 1) := by decide +kernel
theorem dX7_like_27 : decode cX7_like 27 = .ok (.istore_n 3, 1) := by decide +kernel
theorem dX7_like_28 : decode cX7_like 28 = .ok (.iload_n 3, 1) := by decide +kernel
theorem dX7_like_29 : decode cX7_like 29 = .ok (.bipush 60, 2) := by decide +kernel
theorem dX7_like_31 : decode cX7_like 31 = .ok (.if_icmp .ge 90, 3) := by decide +kernel
theorem dX7_like_34 : decode cX7_like 34 = .ok (.aload_n 0, 1) := by decide +kernel
theorem dX7_like_35 : decode cX7_like 35 = .ok (.iload_n 3, 1) := by decide +kernel
theorem dX7_like_36 : decode cX7_like 36 = .ok (.iconst 5, 1) := by decide +kernel
theorem dX7_like_37 : decode cX7_like 37 = .ok (.idiv, 1) := by decide +kernel
theorem dX7_like_38 : decode cX7_like 38 = .ok (.iload_n 3, 1) := by decide +kernel
theorem dX7_like_39 : decode cX7_like 39 = .ok (.iconst 5, 1) := by decide +kernel
theorem dX7_like_40 : decode cX7_like 40 = .ok (.irem, 1) := by decide +kernel
theorem dX7_like_41 : decode cX7_like 41 = .ok (.invokevirtual 181, 3) := by decide +kernel
theorem dX7_like_44 : decode cX7_like 44 = .ok (.iconst 1, 1) := by decide +kernel
theorem dX7_like_45 : decode cX7_like 45 = .ok (.istore 4, 2) := by decide +kernel
theorem dX7_like_47 : decode cX7_like 47 = .ok (.iconst 0, 1) := by decide +kernel
theorem dX7_like_48 : decode cX7_like 48 = .ok (.istore 5, 2) := by decide +kernel
theorem dX7_like_50 : decode cX7_like 50 = .ok (.iload 5, 2) := by decide +kernel
theorem dX7_like_52 : decode cX7_like 52 = .ok (.bipush 12, 2) := by decide +kernel
theorem dX7_like_54 : decode cX7_like 54 = .ok (.if_icmp .ge 48, 3) := by decide +kernel
theorem dX7_like_57 : decode cX7_like 57 = .ok (.iload 4, 2) := by decide +kernel
theorem dX7_like_59 : decode cX7_like 59 = .ok (.ifCond .eq 34, 3) := by decide +kernel
theorem dX7_like_62 : decode cX7_like 62 = .ok (.aload_n 0, 1) := by decide +kernel
theorem dX7_like_63 : decode cX7_like 63 = .ok (.getfield 29, 3) := by decide +kernel
theorem dX7_like_66 : decode cX7_like 66 = .ok (.bipush 15, 2) := by decide +kernel
theorem dX7_like_68 : decode cX7_like 68 = .ok (.iload_n 1, 1) := by decide +kernel
theorem dX7_like_69 : decode cX7_like 69 = .ok (.imul, 1) := by decide +kernel
theorem dX7_like_70 : decode cX7_like 70 = .ok (.aload_n 0, 1) := by decide +kernel
theorem dX7_like_71 : decode cX7_like 71 = .ok (.getfield 35, 3) := by decide +kernel
theorem dX7_like_74 : decode cX7_like 74 = .ok (.iload 5, 2) := by decide +kernel
theorem dX7_like_76 : decode cX7_like 76 = .ok (.iaload, 1) := by decide +kernel
theorem dX7_like_77 : decode cX7_like 77 = .ok (.iadd, 1) := by decide +kernel
theorem dX7_like_78 : decode cX7_like 78 = .ok (.iaload, 1) := by decide +kernel
theorem dX7_like_79 : decode cX7_like 79 = .ok (.aload_n 0, 1) := by decide +kernel
theorem dX7_like_80 : decode cX7_like 80 = .ok (.getfield 20, 3) := by decide +kernel
theorem dX7_like_83 : decode cX7_like 83 = .ok (.iload 5, 2) := by decide +kernel
theorem dX7_like_85 : decode cX7_like 85 = .ok (.iaload, 1) := by decide +kernel
theorem dX7_like_86 : decode cX7_like 86 = .ok (.if_icmp .ne 7, 3) := by decide +kernel
theorem dX7_like_89 : decode cX7_like 89 = .ok (.iconst 1, 1) := by decide +kernel
theorem dX7_like_90 : decode cX7_like 90 = .ok (.goto 4, 3) := by decide +kernel
theorem dX7_like_93 : decode cX7_like 93 = .ok (.iconst 0, 1) := by decide +kernel
theorem dX7_like_94 : decode cX7_like 94 = .ok (.istore 4, 2) := by decide +kernel
theorem dX7_like_96 : decode cX7_like 96 = .ok (.iinc 5 1, 3) := by decide +kernel
theorem dX7_like_99 : decode cX7_like 99 = .ok (.goto (-49), 3) := by decide +kernel
theorem dX7_like_102 : decode cX7_like 102 = .ok (.iload_n 2, 1) := by decide +kernel
theorem dX7_like_103 : decode cX7_like 103 = .ok (.iload 4, 2) := by decide +kernel
theorem dX7_like_105 : decode cX7_like 105 = .ok (.ifCond .eq 7, 3) := by decide +kernel
theorem dX7_like_108 : decode cX7_like 108 = .ok (.iconst 1, 1) := by decide +kernel
theorem dX7_like_109 : decode cX7_like 109 = .ok (.goto 4, 3) := by decide +kernel
theorem dX7_like_112 : decode cX7_like 112 = .ok (.iconst 0, 1) := by decide +kernel
theorem dX7_like_113 : decode cX7_like 113 = .ok (.iadd, 1) := by decide +kernel
theorem dX7_like_114 : decode cX7_like 114 = .ok (.istore_n 2, 1) := by decide +kernel
theorem dX7_like_115 : decode cX7_like 115 = .ok (.iinc 3 1, 3) := by decide +kernel
theorem dX7_like_118 : decode cX7_like 118 = .ok (.goto (-90), 3) := by decide +kernel
theorem dX7_like_121 : decode cX7_like 121 = .ok (.iload_n 2, 1) := by decide +kernel
theorem dX7_like_122 : decode cX7_like 122 = .ok (.ireturn, 1) := by decide +kernel
theorem dX7_fixedOf_0 : decode cX7_fixedOf 0 = .ok (.aload_n 0, 1) := by decide +kernel
theorem dX7_fixedOf_1 : decode cX7_fixedOf 1 = .ok (.iload_n 1, 1) := by decide +kernel
theorem dX7_fixedOf_2 : decode cX7_fixedOf 2 = .ok (.iload_n 2, 1) := by decide +kernel
theorem dX7_fixedOf_3 : decode cX7_fixedOf 3 = .ok (.invokevirtual 181, 3) := by decide +kernel
theorem dX7_fixedOf_6 : decode cX7_fixedOf 6 = .ok (.lconst 1, 1) := by decide +kernel
theorem dX7_fixedOf_7 : decode cX7_fixedOf 7 = .ok (.lstore 4, 2) := by decide +kernel
theorem dX7_fixedOf_9 : decode cX7_fixedOf 9 = .ok (.iconst 0, 1) := by decide +kernel
theorem dX7_fixedOf_10 : decode cX7_fixedOf 10 = .ok (.istore 6, 2) := by decide +kernel
theorem dX7_fixedOf_12 : decode cX7_fixedOf 12 = .ok (.iconst 0, 1) := by decide +kernel
theorem dX7_fixedOf_13 : decode cX7_fixedOf 13 = .ok (.istore 7, 2) := by decide +kernel
theorem dX7_fixedOf_15 : decode cX7_fixedOf 15 = .ok (.iload 7, 2) := by decide +kernel
theorem dX7_fixedOf_17 : decode cX7_fixedOf 17 = .ok (.bipush 12, 2) := by decide +kernel
theorem dX7_fixedOf_19 : decode cX7_fixedOf 19 = .ok (.if_icmp .ge 61, 3) := by decide +kernel
theorem dX7_fixedOf_22 : decode cX7_fixedOf 22 = .ok (.iload 6, 2) := by decide +kernel
theorem dX7_fixedOf_24 : decode cX7_fixedOf 24 = .ok (.iload 7, 2) := by decide +kernel
theorem dX7_fixedOf_26 : decode cX7_fixedOf 26 = .ok (.invokestatic 175, 3) := by decide +kernel
theorem dX7_fixedOf_29 : decode cX7_fixedOf 29 = .ok (.ifCond .ne 45, 3) := by decide +kernel
theorem dX7_fixedOf_32 : decode cX7_fixedOf 32 = .ok (.lload 4, 2) := by decide +kernel
theorem dX7_fixedOf_34 : decode cX7_fixedOf 34 = .ok (.iload_n 3, 1) := by decide +kernel
theorem dX7_fixedOf_35 : decode cX7_fixedOf 35 = .ok (.i2l, 1) := by decide +kernel
theorem dX7_fixedOf_36 : decode cX7_fixedOf 36 = .ok (.lmul, 1) := by decide +kernel
theorem dX7_fixedOf_37 : decode cX7_fixedOf 37 = .ok (.lstore 4, 2) := by decide +kernel
theorem dX7_fixedOf_39 : decode cX7_fixedOf 39 = .ok (.iload 7, 2) := by decide +kernel
theorem dX7_fixedOf_41 : decode cX7_fixedOf 41 = .ok (.istore 8, 2) := by decide +kernel
theorem dX7_fixedOf_43 : decode cX7_fixedOf 43 = .ok (.iload 6, 2) := by decide +kernel
theorem dX7_fixedOf_45 : decode cX7_fixedOf 45 = .ok (.iload 8, 2) := by decide +kernel
theorem dX7_fixedOf_47 : decode cX7_fixedOf 47 = .ok (.invokestatic 175, 3) := by decide +kernel
theorem dX7_fixedOf_50 : decode cX7_fixedOf 50 = .ok (.ifCond .ne 24, 3) := by decide +kernel
theorem dX7_fixedOf_53 : decode cX7_fixedOf 53 = .ok (.iload 6, 2) := by decide +kernel
theorem dX7_fixedOf_55 : decode cX7_fixedOf 55 = .ok (.iconst 1, 1) := by decide +kernel
theorem dX7_fixedOf_56 : decode cX7_fixedOf 56 = .ok (.iload 8, 2) := by decide +kernel
theorem dX7_fixedOf_58 : decode cX7_fixedOf 58 = .ok (.ishl, 1) := by decide +kernel
theorem dX7_fixedOf_59 : decode cX7_fixedOf 59 = .ok (.ior, 1) := by decide +kernel
theorem dX7_fixedOf_60 : decode cX7_fixedOf 60 = .ok (.istore 6, 2) := by decide +kernel
theorem dX7_fixedOf_62 : decode cX7_fixedOf 62 = .ok (.aload_n 0, 1) := by decide +kernel
theorem dX7_fixedOf_63 : decode cX7_fixedOf 63 = .ok (.getfield 35, 3) := by decide +kernel
theorem dX7_fixedOf_66 : decode cX7_fixedOf 66 = .ok (.iload 8, 2) := by decide +kernel
theorem dX7_fixedOf_68 : decode cX7_fixedOf 68 = .ok (.iaload, 1) := by decide +kernel
theorem dX7_fixedOf_69 : decode cX7_fixedOf 69 = .ok (.istore 8, 2) := by decide +kernel
theorem dX7_fixedOf_71 : decode cX7_fixedOf 71 = .ok (.goto (-28), 3) := by decide +kernel
theorem dX7_fixedOf_74 : decode cX7_fixedOf 74 = .ok (.iinc 7 1, 3) := by decide +kernel
theorem dX7_fixedOf_77 : decode cX7_fixedOf 77 = .ok (.goto (-62), 3) := by decide +kernel
theorem dX7_fixedOf_80 : decode cX7_fixedOf 80 = .ok (.lload 4, 2) := by decide +kernel
theorem dX7_fixedOf_82 : decode cX7_fixedOf 82 = .ok (.lreturn, 1) := by decide +kernel
theorem dX7_fixed_0 : decode cX7_fixed 0 = .ok (.iload_n 1, 1) := by decide +kernel
theorem dX7_fixed_1 : decode cX7_fixed 1 = .ok (.invokestatic 169, 3) := by decide +kernel
theorem dX7_fixed_4 : decode cX7_fixed 4 = .ok (.ifCond .eq 10, 3) := by decide +kernel
theorem dX7_fixed_7 : decode cX7_fixed 7 = .ok (.iload_n 2, 1) := by decide +kernel
theorem dX7_fixed_8 : decode cX7_fixed 8 = .ok (.invokestatic 172, 3) := by decide +kernel
theorem dX7_fixed_11 : decode cX7_fixed 11 = .ok (.ifCond .ne 7, 3) := by decide +kernel
theorem dX7_fixed_14 : decode cX7_fixed 14 = .ok (.ldc2_w 87, 3) := by decide +kernel
theorem dX7_fixed_17 : decode cX7_fixed 17 = .ok (.lreturn, 1) := by decide +kernel
theorem dX7_fixed_18 : decode cX7_fixed 18 = .ok (.iload_n 3, 1) := by decide +kernel
theorem dX7_fixed_19 : decode cX7_fixed 19 = .ok (.iconst 1, 1) := by decide +kernel
theorem dX7_fixed_20 : decode cX7_fixed 20 = .ok (.bipush 8, 2) := by decide +kernel
theorem dX7_fixed_22 : decode cX7_fixed 22 = .ok (.invokestatic 65, 3) := by decide +kernel
theorem dX7_fixed_25 : decode cX7_fixed 25 = .ok (.ifCond .eq 13, 3) := by decide +kernel
theorem dX7_fixed_28 : decode cX7_fixed 28 = .ok (.aload_n 0, 1) := by decide +kernel
theorem dX7_fixed_29 : decode cX7_fixed 29 = .ok (.iload_n 1, 1) := by decide +kernel
theorem dX7_fixed_30 : decode cX7_fixed 30 = .ok (.iload_n 2, 1) := by decide +kernel
theorem dX7_fixed_31 : decode cX7_fixed 31 = .ok (.iload_n 3, 1) := by decide +kernel
theorem dX7_fixed_32 : decode cX7_fixed 32 = .ok (.invokevirtual 194, 3) := by decide +kernel
theorem dX7_fixed_35 : decode cX7_fixed 35 = .ok (.goto 6, 3) := by decide +kernel
theorem dX7_fixed_38 : decode cX7_fixed 38 = .ok (.ldc2_w 101, 3) := by decide +kernel
