theorem d_PR_init_0 : decode b_PR_init 0 = .ok (.aload_n 0, 1) := by decide +kernel
theorem d_PR_init_1 : decode b_PR_init 1 = .ok (.invokespecial 3, 3) := by decide +kernel
theorem d_PR_init_4 : decode b_PR_init 4 = .ok (.aload_n 0, 1) := by decide +kernel
theorem d_PR_init_5 : decode b_PR_init 5 = .ok (.aload_n 1, 1) := by decide +kernel
theorem d_PR_init_6 : decode b_PR_init 6 = .ok (.putfield 9, 3) := by decide +kernel
theorem d_PR_init_9 : decode b_PR_init 9 = .ok (.aload_n 0, 1) := by decide +kernel
theorem d_PR_init_10 : decode b_PR_init 10 = .ok (.aload_n 2, 1) := by decide +kernel
theorem d_PR_init_11 : decode b_PR_init 11 = .ok (.putfield 15, 3) := by decide +kernel
theorem d_PR_init_14 : decode b_PR_init 14 = .ok (.aload_n 0, 1) := by decide +kernel
theorem d_PR_init_15 : decode b_PR_init 15 = .ok (.aload_n 3, 1) := by decide +kernel
theorem d_PR_init_16 : decode b_PR_init 16 = .ok (.putfield 19, 3) := by decide +kernel
theorem d_PR_init_19 : decode b_PR_init 19 = .ok (.aload_n 0, 1) := by decide +kernel
theorem d_PR_init_20 : decode b_PR_init 20 = .ok (.aload 4, 2) := by decide +kernel
theorem d_PR_init_22 : decode b_PR_init 22 = .ok (.putfield 22, 3) := by decide +kernel
theorem d_PR_init_25 : decode b_PR_init 25 = .ok (.aload_n 0, 1) := by decide +kernel
theorem d_PR_init_26 : decode b_PR_init 26 = .ok (.new 25, 3) := by decide +kernel
theorem d_PR_init_29 : decode b_PR_init 29 = .ok (.dup, 1) := by decide +kernel
theorem d_PR_init_30 : decode b_PR_init 30 = .ok (.aload_n 1, 1) := by decide +kernel
theorem d_PR_init_31 : decode b_PR_init 31 = .ok (.invokespecial 27, 3) := by decide +kernel
theorem d_PR_init_34 : decode b_PR_init 34 = .ok (.putfield 30, 3) := by decide +kernel
theorem d_PR_init_37 : decode b_PR_init 37 = .ok (.return_, 1) := by decide +kernel
theorem d_PR_cardsToRead_0 : decode b_PR_cardsToRead 0 = .ok (.aload_n 0, 1) := by decide +kernel
theorem d_PR_cardsToRead_1 : decode b_PR_cardsToRead 1 = .ok (.getfield 15, 3) := by decide +kernel
theorem d_PR_cardsToRead_4 : decode b_PR_cardsToRead 4 = .ok (.invokevirtual 34, 3) := by decide +kernel
theorem d_PR_cardsToRead_7 : decode b_PR_cardsToRead 7 = .ok (.aload_n 0, 1) := by decide +kernel
theorem d_PR_cardsToRead_8 : decode b_PR_cardsToRead 8 = .ok (.getfield 40, 3) := by decide +kernel
theorem d_PR_cardsToRead_11 : decode b_PR_cardsToRead 11 = .ok (.isub, 1) := by decide +kernel
theorem d_PR_cardsToRead_12 : decode b_PR_cardsToRead 12 = .ok (.ireturn, 1) := by decide +kernel
theorem d_PR_step_0 : decode b_PR_step 0 = .ok (.aload_n 0, 1) := by decide +kernel
theorem d_PR_step_1 : decode b_PR_step 1 = .ok (.getfield 9, 3) := by decide +kernel
theorem d_PR_step_4 : decode b_PR_step 4 = .ok (.aload_n 0, 1) := by decide +kernel
theorem d_PR_step_5 : decode b_PR_step 5 = .ok (.getfield 44, 3) := by decide +kernel
theorem d_PR_step_8 : decode b_PR_step 8 = .ok (.invokevirtual 47, 3) := by decide +kernel
theorem d_PR_step_11 : decode b_PR_step 11 = .ok (.ifCond .ne 5, 3) := by decide +kernel
theorem d_PR_step_14 : decode b_PR_step 14 = .ok (.iconst 2, 1) := by decide +kernel
theorem d_PR_step_15 : decode b_PR_step 15 = .ok (.ireturn, 1) := by decide +kernel
theorem d_PR_step_16 : decode b_PR_step 16 = .ok (.aload_n 0, 1) := by decide +kernel
theorem d_PR_step_17 : decode b_PR_step 17 = .ok (.getfield 9, 3) := by decide +kernel
theorem d_PR_step_20 : decode b_PR_step 20 = .ok (.aload_n 0, 1) := by decide +kernel
theorem d_PR_step_21 : decode b_PR_step 21 = .ok (.getfield 44, 3) := by decide +kernel
theorem d_PR_step_24 : decode b_PR_step 24 = .ok (.invokevirtual 53, 3) := by decide +kernel
theorem d_PR_step_27 : decode b_PR_step 27 = .ok (.ifCond .ne 5, 3) := by decide +kernel
theorem d_PR_step_30 : decode b_PR_step 30 = .ok (.iconst 1, 1) := by decide +kernel
theorem d_PR_step_31 : decode b_PR_step 31 = .ok (.ireturn, 1) := by decide +kernel
theorem d_PR_step_32 : decode b_PR_step 32 = .ok (.aload_n 0, 1) := by decide +kernel
theorem d_PR_step_33 : decode b_PR_step 33 = .ok (.getfield 9, 3) := by decide +kernel
theorem d_PR_step_36 : decode b_PR_step 36 = .ok (.aload_n 0, 1) := by decide +kernel
theorem d_PR_step_37 : decode b_PR_step 37 = .ok (.getfield 44, 3) := by decide +kernel
theorem d_PR_step_40 : decode b_PR_step 40 = .ok (.invokevirtual 56, 3) := by decide +kernel
theorem d_PR_step_43 : decode b_PR_step 43 = .ok (.istore_n 1, 1) := by decide +kernel
theorem d_PR_step_44 : decode b_PR_step 44 = .ok (.aload_n 0, 1) := by decide +kernel
theorem d_PR_step_45 : decode b_PR_step 45 = .ok (.invokevirtual 60, 3) := by decide +kernel
theorem d_PR_step_48 : decode b_PR_step 48 = .ok (.istore_n 2, 1) := by decide +kernel
theorem d_PR_step_49 : decode b_PR_step 49 = .ok (.iload_n 1, 1) := by decide +kernel
theorem d_PR_step_50 : decode b_PR_step 50 = .ok (.iload_n 2, 1) := by decide +kernel
theorem d_PR_step_51 : decode b_PR_step 51 = .ok (.invokestatic 63, 3) := by decide +kernel
theorem d_PR_step_54 : decode b_PR_step 54 = .ok (.ifCond .ne 5, 3) := by decide +kernel
theorem d_PR_step_57 : decode b_PR_step 57 = .ok (.iconst 3, 1) := by decide +kernel
theorem d_PR_step_58 : decode b_PR_step 58 = .ok (.ireturn, 1) := by decide +kernel
theorem d_PR_step_59 : decode b_PR_step 59 = .ok (.aload_n 0, 1) := by decide +kernel
theorem d_PR_step_60 : decode b_PR_step 60 = .ok (.getfield 67, 3) := by decide +kernel
theorem d_PR_step_63 : decode b_PR_step 63 = .ok (.istore_n 3, 1) := by decide +kernel
theorem d_PR_step_64 : decode b_PR_step 64 = .ok (.aload_n 0, 1) := by decide +kernel
theorem d_PR_step_65 : decode b_PR_step 65 = .ok (.iload_n 1, 1) := by decide +kernel
theorem d_PR_step_66 : decode b_PR_step 66 = .ok (.iload_n 2, 1) := by decide +kernel
theorem d_PR_step_67 : decode b_PR_step 67 = .ok (.invokevirtual 70, 3) := by decide +kernel
theorem d_PR_step_70 : decode b_PR_step 70 = .ok (.aload_n 0, 1) := by decide +kernel
theorem d_PR_step_71 : decode b_PR_step 71 = .ok (.iload_n 1, 1) := by decide +kernel
theorem d_PR_step_72 : decode b_PR_step 72 = .ok (.iload_n 2, 1) := by decide +kernel
theorem d_PR_step_73 : decode b_PR_step 73 = .ok (.iload_n 3, 1) := by decide +kernel
theorem d_PR_step_74 : decode b_PR_step 74 = .ok (.invokevirtual 74, 3) := by decide +kernel
theorem d_PR_step_77 : decode b_PR_step 77 = .ok (.ireturn, 1) := by decide +kernel
theorem d_PR_instructionLength_0 : decode b_PR_instructionLength 0 = .ok (.iconst 1, 1) := by decide +kernel
theorem d_PR_instructionLength_1 : decode b_PR_instructionLength 1 = .ok (.istore_n 1, 1) := by decide +kernel
theorem d_PR_instructionLength_2 : decode b_PR_instructionLength 2 = .ok (.iload_n 1, 1) := by decide +kernel
theorem d_PR_instructionLength_3 : decode b_PR_instructionLength 3 = .ok (.bipush 8, 2) := by decide +kernel
theorem d_PR_instructionLength_5 : decode b_PR_instructionLength 5 = .ok (.if_icmp .gt 43, 3) := by decide +kernel
theorem d_PR_instructionLength_8 : decode b_PR_instructionLength 8 = .ok (.aload_n 0, 1) := by decide +kernel
theorem d_PR_instructionLength_9 : decode b_PR_instructionLength 9 = .ok (.getfield 9, 3) := by decide +kernel
theorem d_PR_instructionLength_12 : decode b_PR_instructionLength 12 = .ok (.aload_n 0, 1) := by decide +kernel
theorem d_PR_instructionLength_13 : decode b_PR_instructionLength 13 = .ok (.getfield 44, 3) := by decide +kernel
theorem d_PR_instructionLength_16 : decode b_PR_instructionLength 16 = .ok (.iload_n 1, 1) := by decide +kernel
theorem d_PR_instructionLength_17 : decode b_PR_instructionLength 17 = .ok (.iadd, 1) := by decide +kernel
theorem d_PR_instructionLength_18 : decode b_PR_instructionLength 18 = .ok (.invokevirtual 47, 3) := by decide +kernel
theorem d_PR_instructionLength_21 : decode b_PR_instructionLength 21 = .ok (.ifCond .eq 27, 3) := by decide +kernel
theorem d_PR_instructionLength_24 : decode b_PR_instructionLength 24 = .ok (.aload_n 0, 1) := by decide +kernel
theorem d_PR_instructionLength_25 : decode b_PR_instructionLength 25 = .ok (.getfield 9, 3) := by decide +kernel
theorem d_PR_instructionLength_28 : decode b_PR_instructionLength 28 = .ok (.aload_n 0, 1) := by decide +kernel
theorem d_PR_instructionLength_29 : decode b_PR_instructionLength 29 = .ok (.getfield 44, 3) := by decide +kernel
theorem d_PR_instructionLength_32 : decode b_PR_instructionLength 32 = .ok (.iload_n 1, 1) := by decide +kernel
theorem d_PR_instructionLength_33 : decode b_PR_instructionLength 33 = .ok (.iadd, 1) := by decide +kernel
theorem d_PR_instructionLength_34 : decode b_PR_instructionLength 34 = .ok (.invokevirtual 53, 3) := by decide +kernel
theorem d_PR_instructionLength_37 : decode b_PR_instructionLength 37 = .ok (.ifCond .eq 5, 3) := by decide +kernel
theorem d_PR_instructionLength_40 : decode b_PR_instructionLength 40 = .ok (.iload_n 1, 1) := by decide +kernel
theorem d_PR_instructionLength_41 : decode b_PR_instructionLength 41 = .ok (.ireturn, 1) := by decide +kernel
theorem d_PR_instructionLength_42 : decode b_PR_instructionLength 42 = .ok (.iinc 1 1, 3) := by decide +kernel
theorem d_PR_instructionLength_45 : decode b_PR_instructionLength 45 = .ok (.goto (-43), 3) := by decide +kernel
theorem d_PR_instructionLength_48 : decode b_PR_instructionLength 48 = .ok (.iconst (-1), 1) := by decide +kernel
theorem d_PR_instructionLength_49 : decode b_PR_instructionLength 49 = .ok (.ireturn, 1) := by decide +kernel
theorem d_PR_allows_0 : decode b_PR_allows 0 = .ok (.iload_n 0, 1) := by decide +kernel
theorem d_PR_allows_1 : decode b_PR_allows 1 = .ok (.tableswitch 391 1 60 #[316, 316, 391, 316, 391, 391, 391, 391, 391, 391, 391, 391, 391, 391, 391, 391, 255, 255, 391, 391, 304, 391, 391, 255, 255, 391, 255, 391, 391, 391, 391, 391, 391, 391, 255, 255, 353, 391, 391, 342, 391, 255, 391, 391, 391, 391, 391, 391, 255, 277, 255, 255, 391, 391, 391, 342, 391, 255, 375, 255], 255) := by decide +kernel
theorem d_PR_allows_256 : decode b_PR_allows 256 = .ok (.iload_n 1, 1) := by decide +kernel
theorem d_PR_allows_257 : decode b_PR_allows 257 = .ok (.iconst 1, 1) := by decide +kernel
theorem d_PR_allows_258 : decode b_PR_allows 258 = .ok (.if_icmp .eq 14, 3) := by decide +kernel
theorem d_PR_allows_261 : decode b_PR_allows 261 = .ok (.iload_n 1, 1) := by decide +kernel
theorem d_PR_allows_262 : decode b_PR_allows 262 = .ok (.iconst 4, 1) := by decide +kernel
theorem d_PR_allows_263 : decode b_PR_allows 263 = .ok (.if_icmp .eq 9, 3) := by decide +kernel
theorem d_PR_allows_266 : decode b_PR_allows 266 = .ok (.iload_n 1, 1) := by decide +kernel
theorem d_PR_allows_267 : decode b_PR_allows 267 = .ok (.bipush 7, 2) := by decide +kernel
theorem d_PR_allows_269 : decode b_PR_allows 269 = .ok (.if_icmp .ne 7, 3) := by decide +kernel
theorem d_PR_allows_272 : decode b_PR_allows 272 = .ok (.iconst 1, 1) := by decide +kernel
theorem d_PR_allows_273 : decode b_PR_allows 273 = .ok (.goto 4, 3) := by decide +kernel
theorem d_PR_allows_276 : decode b_PR_allows 276 = .ok (.iconst 0, 1) := by decide +kernel
theorem d_PR_allows_277 : decode b_PR_allows 277 = .ok (.ireturn, 1) := by decide +kernel
theorem d_PR_allows_278 : decode b_PR_allows 278 = .ok (.iload_n 1, 1) := by decide +kernel
theorem d_PR_allows_279 : decode b_PR_allows 279 = .ok (.iconst 1, 1) := by decide +kernel
theorem d_PR_allows_280 : decode b_PR_allows 280 = .ok (.if_icmp .eq 19, 3) := by decide +kernel
theorem d_PR_allows_283 : decode b_PR_allows 283 = .ok (.iload_n 1, 1) := by decide +kernel
theorem d_PR_allows_284 : decode b_PR_allows 284 = .ok (.iconst 4, 1) := by decide +kernel
theorem d_PR_allows_285 : decode b_PR_allows 285 = .ok (.if_icmp .eq 14, 3) := by decide +kernel
theorem d_PR_allows_288 : decode b_PR_allows 288 = .ok (.iload_n 1, 1) := by decide +kernel
theorem d_PR_allows_289 : decode b_PR_allows 289 = .ok (.iconst 5, 1) := by decide +kernel
theorem d_PR_allows_290 : decode b_PR_allows 290 = .ok (.if_icmp .eq 9, 3) := by decide +kernel
theorem d_PR_allows_293 : decode b_PR_allows 293 = .ok (.iload_n 1, 1) := by decide +kernel
theorem d_PR_allows_294 : decode b_PR_allows 294 = .ok (.bipush 8, 2) := by decide +kernel
theorem d_PR_allows_296 : decode b_PR_allows 296 = .ok (.if_icmp .ne 7, 3) := by decide +kernel
theorem d_PR_allows_299 : decode b_PR_allows 299 = .ok (.iconst 1, 1) := by decide +kernel
theorem d_PR_allows_300 : decode b_PR_allows 300 = .ok (.goto 4, 3) := by decide +kernel
theorem d_PR_allows_303 : decode b_PR_allows 303 = .ok (.iconst 0, 1) := by decide +kernel
theorem d_PR_allows_304 : decode b_PR_allows 304 = .ok (.ireturn, 1) := by decide +kernel
theorem d_PR_allows_305 : decode b_PR_allows 305 = .ok (.iload_n 1, 1) := by decide +kernel
theorem d_PR_allows_306 : decode b_PR_allows 306 = .ok (.bipush 8, 2) := by decide +kernel
theorem d_PR_allows_308 : decode b_PR_allows 308 = .ok (.if_icmp .ne 7, 3) := by decide +kernel
theorem d_PR_allows_311 : decode b_PR_allows 311 = .ok (.iconst 1, 1) := by decide +kernel
theorem d_PR_allows_312 : decode b_PR_allows 312 = .ok (.goto 4, 3) := by decide +kernel
theorem d_PR_allows_315 : decode b_PR_allows 315 = .ok (.iconst 0, 1) := by decide +kernel
theorem d_PR_allows_316 : decode b_PR_allows 316 = .ok (.ireturn, 1) := by decide +kernel
theorem d_PR_allows_317 : decode b_PR_allows 317 = .ok (.iload_n 1, 1) := by decide +kernel
theorem d_PR_allows_318 : decode b_PR_allows 318 = .ok (.iconst 1, 1) := by decide +kernel
theorem d_PR_allows_319 : decode b_PR_allows 319 = .ok (.if_icmp .eq 18, 3) := by decide +kernel
theorem d_PR_allows_322 : decode b_PR_allows 322 = .ok (.iload_n 1, 1) := by decide +kernel
theorem d_PR_allows_323 : decode b_PR_allows 323 = .ok (.iconst 2, 1) := by decide +kernel
theorem d_PR_allows_324 : decode b_PR_allows 324 = .ok (.if_icmp .eq 13, 3) := by decide +kernel
theorem d_PR_allows_327 : decode b_PR_allows 327 = .ok (.iload_n 1, 1) := by decide +kernel
theorem d_PR_allows_328 : decode b_PR_allows 328 = .ok (.iconst 4, 1) := by decide +kernel
theorem d_PR_allows_329 : decode b_PR_allows 329 = .ok (.if_icmp .eq 8, 3) := by decide +kernel
theorem d_PR_allows_332 : decode b_PR_allows 332 = .ok (.iload_n 1, 1) := by decide +kernel
theorem d_PR_allows_333 : decode b_PR_allows 333 = .ok (.iconst 5, 1) := by decide +kernel
theorem d_PR_allows_334 : decode b_PR_allows 334 = .ok (.if_icmp .ne 7, 3) := by decide +kernel
theorem d_PR_allows_337 : decode b_PR_allows 337 = .ok (.iconst 1, 1) := by decide +kernel
theorem d_PR_allows_338 : decode b_PR_allows 338 = .ok (.goto 4, 3) := by decide +kernel
theorem d_PR_allows_341 : decode b_PR_allows 341 = .ok (.iconst 0, 1) := by decide +kernel
theorem d_PR_allows_342 : decode b_PR_allows 342 = .ok (.ireturn, 1) := by decide +kernel
theorem d_PR_allows_343 : decode b_PR_allows 343 = .ok (.iload_n 1, 1) := by decide +kernel
theorem d_PR_allows_344 : decode b_PR_allows 344 = .ok (.iconst 4, 1) := by decide +kernel
theorem d_PR_allows_345 : decode b_PR_allows 345 = .ok (.if_icmp .ne 7, 3) := by decide +kernel
theorem d_PR_allows_348 : decode b_PR_allows 348 = .ok (.iconst 1, 1) := by decide +kernel
theorem d_PR_allows_349 : decode b_PR_allows 349 = .ok (.goto 4, 3) := by decide +kernel
theorem d_PR_allows_352 : decode b_PR_allows 352 = .ok (.iconst 0, 1) := by decide +kernel
theorem d_PR_allows_353 : decode b_PR_allows 353 = .ok (.ireturn, 1) := by decide +kernel
theorem d_PR_allows_354 : decode b_PR_allows 354 = .ok (.iload_n 1, 1) := by decide +kernel
theorem d_PR_allows_355 : decode b_PR_allows 355 = .ok (.iconst (-1), 1) := by decide +kernel
theorem d_PR_allows_356 : decode b_PR_allows 356 = .ok (.if_icmp .eq 18, 3) := by decide +kernel
theorem d_PR_allows_359 : decode b_PR_allows 359 = .ok (.iload_n 1, 1) := by decide +kernel
theorem d_PR_allows_360 : decode b_PR_allows 360 = .ok (.iconst 3, 1) := by decide +kernel
theorem d_PR_allows_361 : decode b_PR_allows 361 = .ok (.if_icmp .eq 13, 3) := by decide +kernel
theorem d_PR_allows_364 : decode b_PR_allows 364 = .ok (.iload_n 1, 1) := by decide +kernel
theorem d_PR_allows_365 : decode b_PR_allows 365 = .ok (.bipush 6, 2) := by decide +kernel
theorem d_PR_allows_367 : decode b_PR_allows 367 = .ok (.if_icmp .eq 7, 3) := by decide +kernel
theorem d_PR_allows_370 : decode b_PR_allows 370 = .ok (.iconst 1, 1) := by decide +kernel
theorem d_PR_allows_371 : decode b_PR_allows 371 = .ok (.goto 4, 3) := by decide +kernel
theorem d_PR_allows_374 : decode b_PR_allows 374 = .ok (.iconst 0, 1) := by decide +kernel
theorem d_PR_allows_375 : decode b_PR_allows 375 = .ok (.ireturn, 1) := by decide +kernel
theorem d_PR_allows_376 : decode b_PR_allows 376 = .ok (.iload_n 1, 1) := by decide +kernel
theorem d_PR_allows_377 : decode b_PR_allows 377 = .ok (.iconst 1, 1) := by decide +kernel
theorem d_PR_allows_378 : decode b_PR_allows 378 = .ok (.if_icmp .eq 8, 3) := by decide +kernel
theorem d_PR_allows_381 : decode b_PR_allows 381 = .ok (.iload_n 1, 1) := by decide +kernel
theorem d_PR_allows_382 : decode b_PR_allows 382 = .ok (.iconst 4, 1) := by decide +kernel
theorem d_PR_allows_383 : decode b_PR_allows 383 = .ok (.if_icmp .ne 7, 3) := by decide +kernel
theorem d_PR_allows_386 : decode b_PR_allows 386 = .ok (.iconst 1, 1) := by decide +kernel
theorem d_PR_allows_387 : decode b_PR_allows 387 = .ok (.goto 4, 3) := by decide +kernel
theorem d_PR_allows_390 : decode b_PR_allows 390 = .ok (.iconst 0, 1) := by decide +kernel
theorem d_PR_allows_391 : decode b_PR_allows 391 = .ok (.ireturn, 1) := by decide +kernel
theorem d_PR_allows_392 : decode b_PR_allows 392 = .ok (.iconst 0, 1) := by decide +kernel
theorem d_PR_allows_393 : decode b_PR_allows 393 = .ok (.ireturn, 1) := by decide +kernel
theorem d_PR_takeAddresses_0 : decode b_PR_takeAddresses 0 = .ok (.iload_n 2, 1) := by decide +kernel
theorem d_PR_takeAddresses_1 : decode b_PR_takeAddresses 1 = .ok (.iconst 4, 1) := by decide +kernel
theorem d_PR_takeAddresses_2 : decode b_PR_takeAddresses 2 = .ok (.if_icmp .lt 20, 3) := by decide +kernel
theorem d_PR_takeAddresses_5 : decode b_PR_takeAddresses 5 = .ok (.aload_n 0, 1) := by decide +kernel
theorem d_PR_takeAddresses_6 : decode b_PR_takeAddresses 6 = .ok (.aload_n 0, 1) := by decide +kernel
theorem d_PR_takeAddresses_7 : decode b_PR_takeAddresses 7 = .ok (.getfield 9, 3) := by decide +kernel
theorem d_PR_takeAddresses_10 : decode b_PR_takeAddresses 10 = .ok (.aload_n 0, 1) := by decide +kernel
theorem d_PR_takeAddresses_11 : decode b_PR_takeAddresses 11 = .ok (.getfield 44, 3) := by decide +kernel
theorem d_PR_takeAddresses_14 : decode b_PR_takeAddresses 14 = .ok (.iconst 1, 1) := by decide +kernel
theorem d_PR_takeAddresses_15 : decode b_PR_takeAddresses 15 = .ok (.iadd, 1) := by decide +kernel
theorem d_PR_takeAddresses_16 : decode b_PR_takeAddresses 16 = .ok (.invokevirtual 78, 3) := by decide +kernel
theorem d_PR_takeAddresses_19 : decode b_PR_takeAddresses 19 = .ok (.putfield 67, 3) := by decide +kernel
theorem d_PR_takeAddresses_22 : decode b_PR_takeAddresses 22 = .ok (.iload_n 2, 1) := by decide +kernel
theorem d_PR_takeAddresses_23 : decode b_PR_takeAddresses 23 = .ok (.bipush 7, 2) := by decide +kernel
theorem d_PR_takeAddresses_25 : decode b_PR_takeAddresses 25 = .ok (.if_icmp .lt 23, 3) := by decide +kernel
theorem d_PR_takeAddresses_28 : decode b_PR_takeAddresses 28 = .ok (.aload_n 0, 1) := by decide +kernel
theorem d_PR_takeAddresses_29 : decode b_PR_takeAddresses 29 = .ok (.aload_n 0, 1) := by decide +kernel
theorem d_PR_takeAddresses_30 : decode b_PR_takeAddresses 30 = .ok (.getfield 9, 3) := by decide +kernel
theorem d_PR_takeAddresses_33 : decode b_PR_takeAddresses 33 = .ok (.aload_n 0, 1) := by decide +kernel
theorem d_PR_takeAddresses_34 : decode b_PR_takeAddresses 34 = .ok (.getfield 44, 3) := by decide +kernel
theorem d_PR_takeAddresses_37 : decode b_PR_takeAddresses 37 = .ok (.iconst 4, 1) := by decide +kernel
theorem d_PR_takeAddresses_38 : decode b_PR_takeAddresses 38 = .ok (.iadd, 1) := by decide +kernel
theorem d_PR_takeAddresses_39 : decode b_PR_takeAddresses 39 = .ok (.invokevirtual 78, 3) := by decide +kernel
theorem d_PR_takeAddresses_42 : decode b_PR_takeAddresses 42 = .ok (.putfield 81, 3) := by decide +kernel
theorem d_PR_takeAddresses_45 : decode b_PR_takeAddresses 45 = .ok (.goto 23, 3) := by decide +kernel
theorem d_PR_takeAddresses_48 : decode b_PR_takeAddresses 48 = .ok (.iload_n 2, 1) := by decide +kernel
theorem d_PR_takeAddresses_49 : decode b_PR_takeAddresses 49 = .ok (.iconst 4, 1) := by decide +kernel
theorem d_PR_takeAddresses_50 : decode b_PR_takeAddresses 50 = .ok (.if_icmp .lt 18, 3) := by decide +kernel
theorem d_PR_takeAddresses_53 : decode b_PR_takeAddresses 53 = .ok (.iload_n 1, 1) := by decide +kernel
theorem d_PR_takeAddresses_54 : decode b_PR_takeAddresses 54 = .ok (.invokestatic 84, 3) := by decide +kernel
theorem d_PR_takeAddresses_57 : decode b_PR_takeAddresses 57 = .ok (.ifCond .ne 11, 3) := by decide +kernel
theorem d_PR_takeAddresses_60 : decode b_PR_takeAddresses 60 = .ok (.aload_n 0, 1) := by decide +kernel
theorem d_PR_takeAddresses_61 : decode b_PR_takeAddresses 61 = .ok (.aload_n 0, 1) := by decide +kernel
theorem d_PR_takeAddresses_62 : decode b_PR_takeAddresses 62 = .ok (.getfield 67, 3) := by decide +kernel
theorem d_PR_takeAddresses_65 : decode b_PR_takeAddresses 65 = .ok (.putfield 81, 3) := by decide +kernel
theorem d_PR_takeAddresses_68 : decode b_PR_takeAddresses 68 = .ok (.aload_n 0, 1) := by decide +kernel
theorem d_PR_takeAddresses_69 : decode b_PR_takeAddresses 69 = .ok (.dup, 1) := by decide +kernel
theorem d_PR_takeAddresses_70 : decode b_PR_takeAddresses 70 = .ok (.getfield 44, 3) := by decide +kernel
theorem d_PR_takeAddresses_73 : decode b_PR_takeAddresses 73 = .ok (.iload_n 2, 1) := by decide +kernel
theorem d_PR_takeAddresses_74 : decode b_PR_takeAddresses 74 = .ok (.iadd, 1) := by decide +kernel
theorem d_PR_takeAddresses_75 : decode b_PR_takeAddresses 75 = .ok (.putfield 44, 3) := by decide +kernel
theorem d_PR_takeAddresses_78 : decode b_PR_takeAddresses 78 = .ok (.return_, 1) := by decide +kernel
theorem d_PR_keepsB_0 : decode b_PR_keepsB 0 = .ok (.iload_n 0, 1) := by decide +kernel
theorem d_PR_keepsB_1 : decode b_PR_keepsB 1 = .ok (.lookupswitch 61 #[(24, 59), (35, 59), (36, 59), (40, 59), (52, 59), (56, 59)], 59) := by decide +kernel
theorem d_PR_keepsB_60 : decode b_PR_keepsB 60 = .ok (.iconst 1, 1) := by decide +kernel
theorem d_PR_keepsB_61 : decode b_PR_keepsB 61 = .ok (.ireturn, 1) := by decide +kernel
theorem d_PR_keepsB_62 : decode b_PR_keepsB 62 = .ok (.iconst 0, 1) := by decide +kernel
theorem d_PR_keepsB_63 : decode b_PR_keepsB 63 = .ok (.ireturn, 1) := by decide +kernel
theorem d_PR_perform_0 : decode b_PR_perform 0 = .ok (.iload_n 1, 1) := by decide +kernel
theorem d_PR_perform_1 : decode b_PR_perform 1 = .ok (.tableswitch 449 1 60 #[356, 371, 449, 396, 449, 449, 449, 449, 449, 449, 449, 449, 449, 449, 449, 449, 324, 262, 449, 449, 351, 449, 449, 300, 340, 449, 312, 449, 449, 449, 449, 449, 449, 449, 288, 283, 449, 449, 449, 419, 449, 276, 449, 449, 449, 449, 449, 449, 255, 345, 307, 293, 449, 449, 449, 425, 449, 269, 434, 318], 255) := by decide +kernel
theorem d_PR_perform_256 : decode b_PR_perform 256 = .ok (.aload_n 0, 1) := by decide +kernel
theorem d_PR_perform_257 : decode b_PR_perform 257 = .ok (.iconst 0, 1) := by decide +kernel
theorem d_PR_perform_258 : decode b_PR_perform 258 = .ok (.iconst 0, 1) := by decide +kernel
theorem d_PR_perform_259 : decode b_PR_perform 259 = .ok (.invokevirtual 87, 3) := by decide +kernel
theorem d_PR_perform_262 : decode b_PR_perform 262 = .ok (.ireturn, 1) := by decide +kernel
theorem d_PR_perform_263 : decode b_PR_perform 263 = .ok (.aload_n 0, 1) := by decide +kernel
theorem d_PR_perform_264 : decode b_PR_perform 264 = .ok (.iconst 0, 1) := by decide +kernel
theorem d_PR_perform_265 : decode b_PR_perform 265 = .ok (.iconst 1, 1) := by decide +kernel
theorem d_PR_perform_266 : decode b_PR_perform 266 = .ok (.invokevirtual 87, 3) := by decide +kernel
theorem d_PR_perform_269 : decode b_PR_perform 269 = .ok (.ireturn, 1) := by decide +kernel
theorem d_PR_perform_270 : decode b_PR_perform 270 = .ok (.aload_n 0, 1) := by decide +kernel
theorem d_PR_perform_271 : decode b_PR_perform 271 = .ok (.iconst 1, 1) := by decide +kernel
theorem d_PR_perform_272 : decode b_PR_perform 272 = .ok (.iconst 0, 1) := by decide +kernel
theorem d_PR_perform_273 : decode b_PR_perform 273 = .ok (.invokevirtual 87, 3) := by decide +kernel
theorem d_PR_perform_276 : decode b_PR_perform 276 = .ok (.ireturn, 1) := by decide +kernel
theorem d_PR_perform_277 : decode b_PR_perform 277 = .ok (.aload_n 0, 1) := by decide +kernel
theorem d_PR_perform_278 : decode b_PR_perform 278 = .ok (.iconst 1, 1) := by decide +kernel
theorem d_PR_perform_279 : decode b_PR_perform 279 = .ok (.iconst 1, 1) := by decide +kernel
theorem d_PR_perform_280 : decode b_PR_perform 280 = .ok (.invokevirtual 87, 3) := by decide +kernel
theorem d_PR_perform_283 : decode b_PR_perform 283 = .ok (.ireturn, 1) := by decide +kernel
theorem d_PR_perform_284 : decode b_PR_perform 284 = .ok (.aload_n 0, 1) := by decide +kernel
theorem d_PR_perform_285 : decode b_PR_perform 285 = .ok (.invokevirtual 91, 3) := by decide +kernel
theorem d_PR_perform_288 : decode b_PR_perform 288 = .ok (.ireturn, 1) := by decide +kernel
theorem d_PR_perform_289 : decode b_PR_perform 289 = .ok (.aload_n 0, 1) := by decide +kernel
theorem d_PR_perform_290 : decode b_PR_perform 290 = .ok (.invokevirtual 94, 3) := by decide +kernel
theorem d_PR_perform_293 : decode b_PR_perform 293 = .ok (.ireturn, 1) := by decide +kernel
theorem d_PR_perform_294 : decode b_PR_perform 294 = .ok (.aload_n 0, 1) := by decide +kernel
theorem d_PR_perform_295 : decode b_PR_perform 295 = .ok (.bipush 15, 2) := by decide +kernel
theorem d_PR_perform_297 : decode b_PR_perform 297 = .ok (.invokevirtual 97, 3) := by decide +kernel
theorem d_PR_perform_300 : decode b_PR_perform 300 = .ok (.ireturn, 1) := by decide +kernel
theorem d_PR_perform_301 : decode b_PR_perform 301 = .ok (.aload_n 0, 1) := by decide +kernel
theorem d_PR_perform_302 : decode b_PR_perform 302 = .ok (.bipush 48, 2) := by decide +kernel
theorem d_PR_perform_304 : decode b_PR_perform 304 = .ok (.invokevirtual 97, 3) := by decide +kernel
theorem d_PR_perform_307 : decode b_PR_perform 307 = .ok (.ireturn, 1) := by decide +kernel
theorem d_PR_perform_308 : decode b_PR_perform 308 = .ok (.aload_n 0, 1) := by decide +kernel
theorem d_PR_perform_309 : decode b_PR_perform 309 = .ok (.invokevirtual 100, 3) := by decide +kernel
theorem d_PR_perform_312 : decode b_PR_perform 312 = .ok (.ireturn, 1) := by decide +kernel
theorem d_PR_perform_313 : decode b_PR_perform 313 = .ok (.aload_n 0, 1) := by decide +kernel
theorem d_PR_perform_314 : decode b_PR_perform 314 = .ok (.iconst 1, 1) := by decide +kernel
theorem d_PR_perform_315 : decode b_PR_perform 315 = .ok (.invokevirtual 103, 3) := by decide +kernel
theorem d_PR_perform_318 : decode b_PR_perform 318 = .ok (.ireturn, 1) := by decide +kernel
theorem d_PR_perform_319 : decode b_PR_perform 319 = .ok (.aload_n 0, 1) := by decide +kernel
theorem d_PR_perform_320 : decode b_PR_perform 320 = .ok (.iconst 0, 1) := by decide +kernel
theorem d_PR_perform_321 : decode b_PR_perform 321 = .ok (.invokevirtual 103, 3) := by decide +kernel
theorem d_PR_perform_324 : decode b_PR_perform 324 = .ok (.ireturn, 1) := by decide +kernel
theorem d_PR_perform_325 : decode b_PR_perform 325 = .ok (.aload_n 0, 1) := by decide +kernel
theorem d_PR_perform_326 : decode b_PR_perform 326 = .ok (.iload_n 2, 1) := by decide +kernel
theorem d_PR_perform_327 : decode b_PR_perform 327 = .ok (.bipush 7, 2) := by decide +kernel
theorem d_PR_perform_329 : decode b_PR_perform 329 = .ok (.if_icmp .ne 7, 3) := by decide +kernel
theorem d_PR_perform_332 : decode b_PR_perform 332 = .ok (.iconst 1, 1) := by decide +kernel
theorem d_PR_perform_333 : decode b_PR_perform 333 = .ok (.goto 4, 3) := by decide +kernel
theorem d_PR_perform_336 : decode b_PR_perform 336 = .ok (.iconst 0, 1) := by decide +kernel
theorem d_PR_perform_337 : decode b_PR_perform 337 = .ok (.invokevirtual 107, 3) := by decide +kernel
theorem d_PR_perform_340 : decode b_PR_perform 340 = .ok (.ireturn, 1) := by decide +kernel
theorem d_PR_perform_341 : decode b_PR_perform 341 = .ok (.aload_n 0, 1) := by decide +kernel
theorem d_PR_perform_342 : decode b_PR_perform 342 = .ok (.invokevirtual 110, 3) := by decide +kernel
theorem d_PR_perform_345 : decode b_PR_perform 345 = .ok (.ireturn, 1) := by decide +kernel
theorem d_PR_perform_346 : decode b_PR_perform 346 = .ok (.aload_n 0, 1) := by decide +kernel
theorem d_PR_perform_347 : decode b_PR_perform 347 = .ok (.iload_n 2, 1) := by decide +kernel
theorem d_PR_perform_348 : decode b_PR_perform 348 = .ok (.invokevirtual 113, 3) := by decide +kernel
theorem d_PR_perform_351 : decode b_PR_perform 351 = .ok (.ireturn, 1) := by decide +kernel
theorem d_PR_perform_352 : decode b_PR_perform 352 = .ok (.aload_n 0, 1) := by decide +kernel
theorem d_PR_perform_353 : decode b_PR_perform 353 = .ok (.invokevirtual 116, 3) := by decide +kernel
theorem d_PR_perform_356 : decode b_PR_perform 356 = .ok (.ireturn, 1) := by decide +kernel
theorem d_PR_perform_357 : decode b_PR_perform 357 = .ok (.aload_n 0, 1) := by decide +kernel
theorem d_PR_perform_358 : decode b_PR_perform 358 = .ok (.iload_n 2, 1) := by decide +kernel
theorem d_PR_perform_359 : decode b_PR_perform 359 = .ok (.iconst 4, 1) := by decide +kernel
theorem d_PR_perform_360 : decode b_PR_perform 360 = .ok (.if_icmp .lt 7, 3) := by decide +kernel
theorem d_PR_perform_363 : decode b_PR_perform 363 = .ok (.iconst 1, 1) := by decide +kernel
theorem d_PR_perform_364 : decode b_PR_perform 364 = .ok (.goto 4, 3) := by decide +kernel
theorem d_PR_perform_367 : decode b_PR_perform 367 = .ok (.iconst 0, 1) := by decide +kernel
theorem d_PR_perform_368 : decode b_PR_perform 368 = .ok (.invokevirtual 119, 3) := by decide +kernel
theorem d_PR_perform_371 : decode b_PR_perform 371 = .ok (.ireturn, 1) := by decide +kernel
theorem d_PR_perform_372 : decode b_PR_perform 372 = .ok (.aload_n 0, 1) := by decide +kernel
theorem d_PR_perform_373 : decode b_PR_perform 373 = .ok (.aload_n 0, 1) := by decide +kernel
theorem d_PR_perform_374 : decode b_PR_perform 374 = .ok (.getfield 19, 3) := by decide +kernel
theorem d_PR_perform_377 : decode b_PR_perform 377 = .ok (.sipush 201, 3) := by decide +kernel
theorem d_PR_perform_380 : decode b_PR_perform 380 = .ok (.sipush 132, 3) := by decide +kernel
theorem d_PR_perform_383 : decode b_PR_perform 383 = .ok (.iload_n 2, 1) := by decide +kernel
theorem d_PR_perform_384 : decode b_PR_perform 384 = .ok (.iconst 4, 1) := by decide +kernel
theorem d_PR_perform_385 : decode b_PR_perform 385 = .ok (.if_icmp .lt 7, 3) := by decide +kernel
theorem d_PR_perform_388 : decode b_PR_perform 388 = .ok (.iconst 1, 1) := by decide +kernel
theorem d_PR_perform_389 : decode b_PR_perform 389 = .ok (.goto 4, 3) := by decide +kernel
theorem d_PR_perform_392 : decode b_PR_perform 392 = .ok (.iconst 0, 1) := by decide +kernel
theorem d_PR_perform_393 : decode b_PR_perform 393 = .ok (.invokevirtual 122, 3) := by decide +kernel
theorem d_PR_perform_396 : decode b_PR_perform 396 = .ok (.ireturn, 1) := by decide +kernel
theorem d_PR_perform_397 : decode b_PR_perform 397 = .ok (.aload_n 0, 1) := by decide +kernel
theorem d_PR_perform_398 : decode b_PR_perform 398 = .ok (.aload_n 0, 1) := by decide +kernel
theorem d_PR_perform_399 : decode b_PR_perform 399 = .ok (.getfield 22, 3) := by decide +kernel
theorem d_PR_perform_402 : decode b_PR_perform 402 = .ok (.bipush 101, 2) := by decide +kernel
theorem d_PR_perform_404 : decode b_PR_perform 404 = .ok (.bipush 80, 2) := by decide +kernel
theorem d_PR_perform_406 : decode b_PR_perform 406 = .ok (.iload_n 2, 1) := by decide +kernel
theorem d_PR_perform_407 : decode b_PR_perform 407 = .ok (.iconst 4, 1) := by decide +kernel
theorem d_PR_perform_408 : decode b_PR_perform 408 = .ok (.if_icmp .lt 7, 3) := by decide +kernel
theorem d_PR_perform_411 : decode b_PR_perform 411 = .ok (.iconst 1, 1) := by decide +kernel
theorem d_PR_perform_412 : decode b_PR_perform 412 = .ok (.goto 4, 3) := by decide +kernel
theorem d_PR_perform_415 : decode b_PR_perform 415 = .ok (.iconst 0, 1) := by decide +kernel
theorem d_PR_perform_416 : decode b_PR_perform 416 = .ok (.invokevirtual 122, 3) := by decide +kernel
theorem d_PR_perform_419 : decode b_PR_perform 419 = .ok (.ireturn, 1) := by decide +kernel
theorem d_PR_perform_420 : decode b_PR_perform 420 = .ok (.aload_n 0, 1) := by decide +kernel
theorem d_PR_perform_421 : decode b_PR_perform 421 = .ok (.iload_n 3, 1) := by decide +kernel
theorem d_PR_perform_422 : decode b_PR_perform 422 = .ok (.invokevirtual 126, 3) := by decide +kernel
theorem d_PR_perform_425 : decode b_PR_perform 425 = .ok (.ireturn, 1) := by decide +kernel
theorem d_PR_perform_426 : decode b_PR_perform 426 = .ok (.aload_n 0, 1) := by decide +kernel
theorem d_PR_perform_427 : decode b_PR_perform 427 = .ok (.aload_n 0, 1) := by decide +kernel
theorem d_PR_perform_428 : decode b_PR_perform 428 = .ok (.getfield 81, 3) := by decide +kernel
theorem d_PR_perform_431 : decode b_PR_perform 431 = .ok (.invokevirtual 126, 3) := by decide +kernel
theorem d_PR_perform_434 : decode b_PR_perform 434 = .ok (.ireturn, 1) := by decide +kernel
theorem d_PR_perform_435 : decode b_PR_perform 435 = .ok (.aload_n 0, 1) := by decide +kernel
theorem d_PR_perform_436 : decode b_PR_perform 436 = .ok (.iload_n 2, 1) := by decide +kernel
theorem d_PR_perform_437 : decode b_PR_perform 437 = .ok (.iconst 4, 1) := by decide +kernel
theorem d_PR_perform_438 : decode b_PR_perform 438 = .ok (.if_icmp .ne 7, 3) := by decide +kernel
theorem d_PR_perform_441 : decode b_PR_perform 441 = .ok (.iconst 1, 1) := by decide +kernel
theorem d_PR_perform_442 : decode b_PR_perform 442 = .ok (.goto 4, 3) := by decide +kernel
theorem d_PR_perform_445 : decode b_PR_perform 445 = .ok (.iconst 0, 1) := by decide +kernel
theorem d_PR_perform_446 : decode b_PR_perform 446 = .ok (.invokevirtual 129, 3) := by decide +kernel
theorem d_PR_perform_449 : decode b_PR_perform 449 = .ok (.ireturn, 1) := by decide +kernel
theorem d_PR_perform_450 : decode b_PR_perform 450 = .ok (.iconst 0, 1) := by decide +kernel
theorem d_PR_perform_451 : decode b_PR_perform 451 = .ok (.ireturn, 1) := by decide +kernel
theorem d_PR_goThere_0 : decode b_PR_goThere 0 = .ok (.aload_n 0, 1) := by decide +kernel
theorem d_PR_goThere_1 : decode b_PR_goThere 1 = .ok (.getfield 44, 3) := by decide +kernel
theorem d_PR_goThere_4 : decode b_PR_goThere 4 = .ok (.istore_n 1, 1) := by decide +kernel
theorem d_PR_goThere_5 : decode b_PR_goThere 5 = .ok (.aload_n 0, 1) := by decide +kernel
theorem d_PR_goThere_6 : decode b_PR_goThere 6 = .ok (.aload_n 0, 1) := by decide +kernel
theorem d_PR_goThere_7 : decode b_PR_goThere 7 = .ok (.getfield 67, 3) := by decide +kernel
theorem d_PR_goThere_10 : decode b_PR_goThere 10 = .ok (.putfield 44, 3) := by decide +kernel
theorem d_PR_goThere_13 : decode b_PR_goThere 13 = .ok (.aload_n 0, 1) := by decide +kernel
theorem d_PR_goThere_14 : decode b_PR_goThere 14 = .ok (.iload_n 1, 1) := by decide +kernel
theorem d_PR_goThere_15 : decode b_PR_goThere 15 = .ok (.putfield 67, 3) := by decide +kernel
theorem d_PR_goThere_18 : decode b_PR_goThere 18 = .ok (.return_, 1) := by decide +kernel
theorem d_PR_modifier_0 : decode b_PR_modifier 0 = .ok (.aload_n 0, 1) := by decide +kernel
theorem d_PR_modifier_1 : decode b_PR_modifier 1 = .ok (.getfield 9, 3) := by decide +kernel
theorem d_PR_modifier_4 : decode b_PR_modifier 4 = .ok (.aload_n 0, 1) := by decide +kernel
theorem d_PR_modifier_5 : decode b_PR_modifier 5 = .ok (.getfield 44, 3) := by decide +kernel
theorem d_PR_modifier_8 : decode b_PR_modifier 8 = .ok (.iconst 1, 1) := by decide +kernel
theorem d_PR_modifier_9 : decode b_PR_modifier 9 = .ok (.isub, 1) := by decide +kernel
theorem d_PR_modifier_10 : decode b_PR_modifier 10 = .ok (.invokevirtual 56, 3) := by decide +kernel
theorem d_PR_modifier_13 : decode b_PR_modifier 13 = .ok (.ireturn, 1) := by decide +kernel
theorem d_PR_calculate_0 : decode b_PR_calculate 0 = .ok (.aload_n 0, 1) := by decide +kernel
theorem d_PR_calculate_1 : decode b_PR_calculate 1 = .ok (.getfield 9, 3) := by decide +kernel
theorem d_PR_calculate_4 : decode b_PR_calculate 4 = .ok (.aload_n 0, 1) := by decide +kernel
theorem d_PR_calculate_5 : decode b_PR_calculate 5 = .ok (.getfield 81, 3) := by decide +kernel
theorem d_PR_calculate_8 : decode b_PR_calculate 8 = .ok (.invokevirtual 132, 3) := by decide +kernel
theorem d_PR_calculate_11 : decode b_PR_calculate 11 = .ok (.istore_n 3, 1) := by decide +kernel
theorem d_PR_calculate_12 : decode b_PR_calculate 12 = .ok (.aload_n 0, 1) := by decide +kernel
theorem d_PR_calculate_13 : decode b_PR_calculate 13 = .ok (.getfield 9, 3) := by decide +kernel
theorem d_PR_calculate_16 : decode b_PR_calculate 16 = .ok (.aload_n 0, 1) := by decide +kernel
theorem d_PR_calculate_17 : decode b_PR_calculate 17 = .ok (.getfield 67, 3) := by decide +kernel
theorem d_PR_calculate_20 : decode b_PR_calculate 20 = .ok (.iload_n 3, 1) := by decide +kernel
theorem d_PR_calculate_21 : decode b_PR_calculate 21 = .ok (.invokevirtual 135, 3) := by decide +kernel
theorem d_PR_calculate_24 : decode b_PR_calculate 24 = .ok (.istore 4, 2) := by decide +kernel
theorem d_PR_calculate_26 : decode b_PR_calculate 26 = .ok (.iload_n 3, 1) := by decide +kernel
theorem d_PR_calculate_27 : decode b_PR_calculate 27 = .ok (.iconst (-1), 1) := by decide +kernel
theorem d_PR_calculate_28 : decode b_PR_calculate 28 = .ok (.if_icmp .eq 9, 3) := by decide +kernel
theorem d_PR_calculate_31 : decode b_PR_calculate 31 = .ok (.iload 4, 2) := by decide +kernel
theorem d_PR_calculate_33 : decode b_PR_calculate 33 = .ok (.iconst (-1), 1) := by decide +kernel
theorem d_PR_calculate_34 : decode b_PR_calculate 34 = .ok (.if_icmp .ne 5, 3) := by decide +kernel
theorem d_PR_calculate_37 : decode b_PR_calculate 37 = .ok (.iconst 2, 1) := by decide +kernel
theorem d_PR_calculate_38 : decode b_PR_calculate 38 = .ok (.ireturn, 1) := by decide +kernel
theorem d_PR_calculate_39 : decode b_PR_calculate 39 = .ok (.aload_n 0, 1) := by decide +kernel
theorem d_PR_calculate_40 : decode b_PR_calculate 40 = .ok (.getfield 9, 3) := by decide +kernel
theorem d_PR_calculate_43 : decode b_PR_calculate 43 = .ok (.aload_n 0, 1) := by decide +kernel
theorem d_PR_calculate_44 : decode b_PR_calculate 44 = .ok (.getfield 67, 3) := by decide +kernel
theorem d_PR_calculate_47 : decode b_PR_calculate 47 = .ok (.invokevirtual 138, 3) := by decide +kernel
theorem d_PR_calculate_50 : decode b_PR_calculate 50 = .ok (.iload_n 2, 1) := by decide +kernel
theorem d_PR_calculate_51 : decode b_PR_calculate 51 = .ok (.if_icmp .eq 7, 3) := by decide +kernel
theorem d_PR_calculate_54 : decode b_PR_calculate 54 = .ok (.iconst 1, 1) := by decide +kernel
theorem d_PR_calculate_55 : decode b_PR_calculate 55 = .ok (.goto 4, 3) := by decide +kernel
theorem d_PR_calculate_58 : decode b_PR_calculate 58 = .ok (.iconst 0, 1) := by decide +kernel
theorem d_PR_calculate_59 : decode b_PR_calculate 59 = .ok (.istore 5, 2) := by decide +kernel
theorem d_PR_calculate_61 : decode b_PR_calculate 61 = .ok (.aload_n 0, 1) := by decide +kernel
theorem d_PR_calculate_62 : decode b_PR_calculate 62 = .ok (.getfield 30, 3) := by decide +kernel
theorem d_PR_calculate_65 : decode b_PR_calculate 65 = .ok (.aload_n 0, 1) := by decide +kernel
theorem d_PR_calculate_66 : decode b_PR_calculate 66 = .ok (.getfield 67, 3) := by decide +kernel
theorem d_PR_calculate_69 : decode b_PR_calculate 69 = .ok (.iload 4, 2) := by decide +kernel
theorem d_PR_calculate_71 : decode b_PR_calculate 71 = .ok (.iload_n 3, 1) := by decide +kernel
theorem d_PR_calculate_72 : decode b_PR_calculate 72 = .ok (.invokevirtual 141, 3) := by decide +kernel
theorem d_PR_calculate_75 : decode b_PR_calculate 75 = .ok (.iload_n 1, 1) := by decide +kernel
theorem d_PR_calculate_76 : decode b_PR_calculate 76 = .ok (.ifCond .eq 34, 3) := by decide +kernel
theorem d_PR_calculate_79 : decode b_PR_calculate 79 = .ok (.aload_n 0, 1) := by decide +kernel
theorem d_PR_calculate_80 : decode b_PR_calculate 80 = .ok (.getfield 30, 3) := by decide +kernel
theorem d_PR_calculate_83 : decode b_PR_calculate 83 = .ok (.aload_n 0, 1) := by decide +kernel
theorem d_PR_calculate_84 : decode b_PR_calculate 84 = .ok (.getfield 81, 3) := by decide +kernel
theorem d_PR_calculate_87 : decode b_PR_calculate 87 = .ok (.iload_n 3, 1) := by decide +kernel
theorem d_PR_calculate_88 : decode b_PR_calculate 88 = .ok (.invokevirtual 145, 3) := by decide +kernel
theorem d_PR_calculate_91 : decode b_PR_calculate 91 = .ok (.aload_n 0, 1) := by decide +kernel
theorem d_PR_calculate_92 : decode b_PR_calculate 92 = .ok (.getfield 9, 3) := by decide +kernel
theorem d_PR_calculate_95 : decode b_PR_calculate 95 = .ok (.aload_n 0, 1) := by decide +kernel
theorem d_PR_calculate_96 : decode b_PR_calculate 96 = .ok (.getfield 81, 3) := by decide +kernel
theorem d_PR_calculate_99 : decode b_PR_calculate 99 = .ok (.iload 5, 2) := by decide +kernel
theorem d_PR_calculate_101 : decode b_PR_calculate 101 = .ok (.invokestatic 148, 3) := by decide +kernel
theorem d_PR_calculate_104 : decode b_PR_calculate 104 = .ok (.invokevirtual 151, 3) := by decide +kernel
theorem d_PR_calculate_107 : decode b_PR_calculate 107 = .ok (.goto 10, 3) := by decide +kernel
theorem d_PR_calculate_110 : decode b_PR_calculate 110 = .ok (.aload_n 0, 1) := by decide +kernel
theorem d_PR_calculate_111 : decode b_PR_calculate 111 = .ok (.iload_n 3, 1) := by decide +kernel
theorem d_PR_calculate_112 : decode b_PR_calculate 112 = .ok (.iload 5, 2) := by decide +kernel
theorem d_PR_calculate_114 : decode b_PR_calculate 114 = .ok (.invokevirtual 154, 3) := by decide +kernel
theorem d_PR_calculate_117 : decode b_PR_calculate 117 = .ok (.aload_n 0, 1) := by decide +kernel
theorem d_PR_calculate_118 : decode b_PR_calculate 118 = .ok (.dup, 1) := by decide +kernel
theorem d_PR_calculate_119 : decode b_PR_calculate 119 = .ok (.getfield 67, 3) := by decide +kernel
theorem d_PR_calculate_122 : decode b_PR_calculate 122 = .ok (.iload 4, 2) := by decide +kernel
theorem d_PR_calculate_124 : decode b_PR_calculate 124 = .ok (.isub, 1) := by decide +kernel
theorem d_PR_calculate_125 : decode b_PR_calculate 125 = .ok (.putfield 67, 3) := by decide +kernel
theorem d_PR_calculate_128 : decode b_PR_calculate 128 = .ok (.aload_n 0, 1) := by decide +kernel
theorem d_PR_calculate_129 : decode b_PR_calculate 129 = .ok (.dup, 1) := by decide +kernel
theorem d_PR_calculate_130 : decode b_PR_calculate 130 = .ok (.getfield 81, 3) := by decide +kernel
theorem d_PR_calculate_133 : decode b_PR_calculate 133 = .ok (.iload_n 3, 1) := by decide +kernel
theorem d_PR_calculate_134 : decode b_PR_calculate 134 = .ok (.isub, 1) := by decide +kernel
theorem d_PR_calculate_135 : decode b_PR_calculate 135 = .ok (.putfield 81, 3) := by decide +kernel
theorem d_PR_calculate_138 : decode b_PR_calculate 138 = .ok (.iconst 0, 1) := by decide +kernel
theorem d_PR_calculate_139 : decode b_PR_calculate 139 = .ok (.ireturn, 1) := by decide +kernel
theorem d_PR_addSigned_0 : decode b_PR_addSigned 0 = .ok (.aload_n 0, 1) := by decide +kernel
theorem d_PR_addSigned_1 : decode b_PR_addSigned 1 = .ok (.getfield 9, 3) := by decide +kernel
theorem d_PR_addSigned_4 : decode b_PR_addSigned 4 = .ok (.aload_n 0, 1) := by decide +kernel
theorem d_PR_addSigned_5 : decode b_PR_addSigned 5 = .ok (.getfield 81, 3) := by decide +kernel
theorem d_PR_addSigned_8 : decode b_PR_addSigned 8 = .ok (.invokevirtual 138, 3) := by decide +kernel
theorem d_PR_addSigned_11 : decode b_PR_addSigned 11 = .ok (.istore_n 3, 1) := by decide +kernel
theorem d_PR_addSigned_12 : decode b_PR_addSigned 12 = .ok (.iload_n 2, 1) := by decide +kernel
theorem d_PR_addSigned_13 : decode b_PR_addSigned 13 = .ok (.iload_n 3, 1) := by decide +kernel
theorem d_PR_addSigned_14 : decode b_PR_addSigned 14 = .ok (.if_icmp .ne 37, 3) := by decide +kernel
theorem d_PR_addSigned_17 : decode b_PR_addSigned 17 = .ok (.aload_n 0, 1) := by decide +kernel
theorem d_PR_addSigned_18 : decode b_PR_addSigned 18 = .ok (.aload_n 0, 1) := by decide +kernel
theorem d_PR_addSigned_19 : decode b_PR_addSigned 19 = .ok (.getfield 30, 3) := by decide +kernel
theorem d_PR_addSigned_22 : decode b_PR_addSigned 22 = .ok (.aload_n 0, 1) := by decide +kernel
theorem d_PR_addSigned_23 : decode b_PR_addSigned 23 = .ok (.getfield 81, 3) := by decide +kernel
theorem d_PR_addSigned_26 : decode b_PR_addSigned 26 = .ok (.iload_n 1, 1) := by decide +kernel
theorem d_PR_addSigned_27 : decode b_PR_addSigned 27 = .ok (.invokevirtual 158, 3) := by decide +kernel
theorem d_PR_addSigned_30 : decode b_PR_addSigned 30 = .ok (.ifCond .ne 10, 3) := by decide +kernel
theorem d_PR_addSigned_33 : decode b_PR_addSigned 33 = .ok (.aload_n 0, 1) := by decide +kernel
theorem d_PR_addSigned_34 : decode b_PR_addSigned 34 = .ok (.getfield 161, 3) := by decide +kernel
theorem d_PR_addSigned_37 : decode b_PR_addSigned 37 = .ok (.ifCond .eq 7, 3) := by decide +kernel
theorem d_PR_addSigned_40 : decode b_PR_addSigned 40 = .ok (.iconst 1, 1) := by decide +kernel
theorem d_PR_addSigned_41 : decode b_PR_addSigned 41 = .ok (.goto 4, 3) := by decide +kernel
theorem d_PR_addSigned_44 : decode b_PR_addSigned 44 = .ok (.iconst 0, 1) := by decide +kernel
theorem d_PR_addSigned_45 : decode b_PR_addSigned 45 = .ok (.putfield 161, 3) := by decide +kernel
theorem d_PR_addSigned_48 : decode b_PR_addSigned 48 = .ok (.goto 55, 3) := by decide +kernel
theorem d_PR_addSigned_51 : decode b_PR_addSigned 51 = .ok (.aload_n 0, 1) := by decide +kernel
theorem d_PR_addSigned_52 : decode b_PR_addSigned 52 = .ok (.getfield 30, 3) := by decide +kernel
theorem d_PR_addSigned_55 : decode b_PR_addSigned 55 = .ok (.aload_n 0, 1) := by decide +kernel
theorem d_PR_addSigned_56 : decode b_PR_addSigned 56 = .ok (.getfield 81, 3) := by decide +kernel
theorem d_PR_addSigned_59 : decode b_PR_addSigned 59 = .ok (.iload_n 1, 1) := by decide +kernel
theorem d_PR_addSigned_60 : decode b_PR_addSigned 60 = .ok (.invokevirtual 165, 3) := by decide +kernel
theorem d_PR_addSigned_63 : decode b_PR_addSigned 63 = .ok (.istore 4, 2) := by decide +kernel
theorem d_PR_addSigned_65 : decode b_PR_addSigned 65 = .ok (.aload_n 0, 1) := by decide +kernel
theorem d_PR_addSigned_66 : decode b_PR_addSigned 66 = .ok (.getfield 30, 3) := by decide +kernel
theorem d_PR_addSigned_69 : decode b_PR_addSigned 69 = .ok (.aload_n 0, 1) := by decide +kernel
theorem d_PR_addSigned_70 : decode b_PR_addSigned 70 = .ok (.getfield 81, 3) := by decide +kernel
theorem d_PR_addSigned_73 : decode b_PR_addSigned 73 = .ok (.iload_n 1, 1) := by decide +kernel
theorem d_PR_addSigned_74 : decode b_PR_addSigned 74 = .ok (.iload 4, 2) := by decide +kernel
theorem d_PR_addSigned_76 : decode b_PR_addSigned 76 = .ok (.invokevirtual 168, 3) := by decide +kernel
theorem d_PR_addSigned_79 : decode b_PR_addSigned 79 = .ok (.aload_n 0, 1) := by decide +kernel
theorem d_PR_addSigned_80 : decode b_PR_addSigned 80 = .ok (.getfield 9, 3) := by decide +kernel
theorem d_PR_addSigned_83 : decode b_PR_addSigned 83 = .ok (.aload_n 0, 1) := by decide +kernel
theorem d_PR_addSigned_84 : decode b_PR_addSigned 84 = .ok (.getfield 81, 3) := by decide +kernel
theorem d_PR_addSigned_87 : decode b_PR_addSigned 87 = .ok (.iload 4, 2) := by decide +kernel
theorem d_PR_addSigned_89 : decode b_PR_addSigned 89 = .ok (.ifCond .eq 7, 3) := by decide +kernel
theorem d_PR_addSigned_92 : decode b_PR_addSigned 92 = .ok (.iload_n 2, 1) := by decide +kernel
theorem d_PR_addSigned_93 : decode b_PR_addSigned 93 = .ok (.goto 4, 3) := by decide +kernel
theorem d_PR_addSigned_96 : decode b_PR_addSigned 96 = .ok (.iload_n 3, 1) := by decide +kernel
theorem d_PR_addSigned_97 : decode b_PR_addSigned 97 = .ok (.invokestatic 148, 3) := by decide +kernel
theorem d_PR_addSigned_100 : decode b_PR_addSigned 100 = .ok (.invokevirtual 151, 3) := by decide +kernel
theorem d_PR_addSigned_103 : decode b_PR_addSigned 103 = .ok (.return_, 1) := by decide +kernel
theorem d_PR_move_0 : decode b_PR_move 0 = .ok (.aload_n 0, 1) := by decide +kernel
theorem d_PR_move_1 : decode b_PR_move 1 = .ok (.getfield 9, 3) := by decide +kernel
theorem d_PR_move_4 : decode b_PR_move 4 = .ok (.aload_n 0, 1) := by decide +kernel
theorem d_PR_move_5 : decode b_PR_move 5 = .ok (.getfield 67, 3) := by decide +kernel
theorem d_PR_move_8 : decode b_PR_move 8 = .ok (.aload_n 0, 1) := by decide +kernel
theorem d_PR_move_9 : decode b_PR_move 9 = .ok (.getfield 81, 3) := by decide +kernel
theorem d_PR_move_12 : decode b_PR_move 12 = .ok (.invokevirtual 172, 3) := by decide +kernel
theorem d_PR_move_15 : decode b_PR_move 15 = .ok (.istore_n 1, 1) := by decide +kernel
theorem d_PR_move_16 : decode b_PR_move 16 = .ok (.iload_n 1, 1) := by decide +kernel
theorem d_PR_move_17 : decode b_PR_move 17 = .ok (.iconst (-1), 1) := by decide +kernel
theorem d_PR_move_18 : decode b_PR_move 18 = .ok (.if_icmp .ne 5, 3) := by decide +kernel
theorem d_PR_move_21 : decode b_PR_move 21 = .ok (.iconst 2, 1) := by decide +kernel
theorem d_PR_move_22 : decode b_PR_move 22 = .ok (.ireturn, 1) := by decide +kernel
theorem d_PR_move_23 : decode b_PR_move 23 = .ok (.iconst 0, 1) := by decide +kernel
theorem d_PR_move_24 : decode b_PR_move 24 = .ok (.istore_n 2, 1) := by decide +kernel
theorem d_PR_move_25 : decode b_PR_move 25 = .ok (.iload_n 2, 1) := by decide +kernel
theorem d_PR_move_26 : decode b_PR_move 26 = .ok (.iload_n 1, 1) := by decide +kernel
theorem d_PR_move_27 : decode b_PR_move 27 = .ok (.if_icmp .ge 35, 3) := by decide +kernel
theorem d_PR_move_30 : decode b_PR_move 30 = .ok (.aload_n 0, 1) := by decide +kernel
theorem d_PR_move_31 : decode b_PR_move 31 = .ok (.getfield 9, 3) := by decide +kernel
theorem d_PR_move_34 : decode b_PR_move 34 = .ok (.aload_n 0, 1) := by decide +kernel
theorem d_PR_move_35 : decode b_PR_move 35 = .ok (.getfield 81, 3) := by decide +kernel
theorem d_PR_move_38 : decode b_PR_move 38 = .ok (.iload_n 2, 1) := by decide +kernel
theorem d_PR_move_39 : decode b_PR_move 39 = .ok (.isub, 1) := by decide +kernel
theorem d_PR_move_40 : decode b_PR_move 40 = .ok (.aload_n 0, 1) := by decide +kernel
theorem d_PR_move_41 : decode b_PR_move 41 = .ok (.getfield 9, 3) := by decide +kernel
theorem d_PR_move_44 : decode b_PR_move 44 = .ok (.aload_n 0, 1) := by decide +kernel
theorem d_PR_move_45 : decode b_PR_move 45 = .ok (.getfield 67, 3) := by decide +kernel
theorem d_PR_move_48 : decode b_PR_move 48 = .ok (.iload_n 2, 1) := by decide +kernel
theorem d_PR_move_49 : decode b_PR_move 49 = .ok (.isub, 1) := by decide +kernel
theorem d_PR_move_50 : decode b_PR_move 50 = .ok (.invokevirtual 56, 3) := by decide +kernel
theorem d_PR_move_53 : decode b_PR_move 53 = .ok (.invokevirtual 175, 3) := by decide +kernel
theorem d_PR_move_56 : decode b_PR_move 56 = .ok (.iinc 2 1, 3) := by decide +kernel
theorem d_PR_move_59 : decode b_PR_move 59 = .ok (.goto (-34), 3) := by decide +kernel
theorem d_PR_move_62 : decode b_PR_move 62 = .ok (.aload_n 0, 1) := by decide +kernel
theorem d_PR_move_63 : decode b_PR_move 63 = .ok (.dup, 1) := by decide +kernel
theorem d_PR_move_64 : decode b_PR_move 64 = .ok (.getfield 67, 3) := by decide +kernel
theorem d_PR_move_67 : decode b_PR_move 67 = .ok (.iload_n 1, 1) := by decide +kernel
theorem d_PR_move_68 : decode b_PR_move 68 = .ok (.isub, 1) := by decide +kernel
theorem d_PR_move_69 : decode b_PR_move 69 = .ok (.putfield 67, 3) := by decide +kernel
theorem d_PR_move_72 : decode b_PR_move 72 = .ok (.aload_n 0, 1) := by decide +kernel
theorem d_PR_move_73 : decode b_PR_move 73 = .ok (.dup, 1) := by decide +kernel
theorem d_PR_move_74 : decode b_PR_move 74 = .ok (.getfield 81, 3) := by decide +kernel
theorem d_PR_move_77 : decode b_PR_move 77 = .ok (.iload_n 1, 1) := by decide +kernel
theorem d_PR_move_78 : decode b_PR_move 78 = .ok (.isub, 1) := by decide +kernel
theorem d_PR_move_79 : decode b_PR_move 79 = .ok (.putfield 81, 3) := by decide +kernel
theorem d_PR_move_82 : decode b_PR_move 82 = .ok (.iconst 0, 1) := by decide +kernel
theorem d_PR_move_83 : decode b_PR_move 83 = .ok (.ireturn, 1) := by decide +kernel
theorem d_PR_load_0 : decode b_PR_load 0 = .ok (.aload_n 0, 1) := by decide +kernel
theorem d_PR_load_1 : decode b_PR_load 1 = .ok (.getfield 9, 3) := by decide +kernel
theorem d_PR_load_4 : decode b_PR_load 4 = .ok (.aload_n 0, 1) := by decide +kernel
theorem d_PR_load_5 : decode b_PR_load 5 = .ok (.getfield 67, 3) := by decide +kernel
theorem d_PR_load_8 : decode b_PR_load 8 = .ok (.invokevirtual 132, 3) := by decide +kernel
theorem d_PR_load_11 : decode b_PR_load 11 = .ok (.istore_n 1, 1) := by decide +kernel
theorem d_PR_load_12 : decode b_PR_load 12 = .ok (.iload_n 1, 1) := by decide +kernel
theorem d_PR_load_13 : decode b_PR_load 13 = .ok (.iconst (-1), 1) := by decide +kernel
theorem d_PR_load_14 : decode b_PR_load 14 = .ok (.if_icmp .eq 18, 3) := by decide +kernel
theorem d_PR_load_17 : decode b_PR_load 17 = .ok (.aload_n 0, 1) := by decide +kernel
theorem d_PR_load_18 : decode b_PR_load 18 = .ok (.getfield 9, 3) := by decide +kernel
theorem d_PR_load_21 : decode b_PR_load 21 = .ok (.aload_n 0, 1) := by decide +kernel
theorem d_PR_load_22 : decode b_PR_load 22 = .ok (.getfield 81, 3) := by decide +kernel
theorem d_PR_load_25 : decode b_PR_load 25 = .ok (.iload_n 1, 1) := by decide +kernel
theorem d_PR_load_26 : decode b_PR_load 26 = .ok (.invokevirtual 178, 3) := by decide +kernel
theorem d_PR_load_29 : decode b_PR_load 29 = .ok (.ifCond .ne 5, 3) := by decide +kernel
theorem d_PR_load_32 : decode b_PR_load 32 = .ok (.iconst 2, 1) := by decide +kernel
theorem d_PR_load_33 : decode b_PR_load 33 = .ok (.ireturn, 1) := by decide +kernel
theorem d_PR_load_34 : decode b_PR_load 34 = .ok (.aload_n 0, 1) := by decide +kernel
theorem d_PR_load_35 : decode b_PR_load 35 = .ok (.getfield 9, 3) := by decide +kernel
theorem d_PR_load_38 : decode b_PR_load 38 = .ok (.aload_n 0, 1) := by decide +kernel
theorem d_PR_load_39 : decode b_PR_load 39 = .ok (.getfield 67, 3) := by decide +kernel
theorem d_PR_load_42 : decode b_PR_load 42 = .ok (.aload_n 0, 1) := by decide +kernel
theorem d_PR_load_43 : decode b_PR_load 43 = .ok (.getfield 81, 3) := by decide +kernel
theorem d_PR_load_46 : decode b_PR_load 46 = .ok (.iload_n 1, 1) := by decide +kernel
theorem d_PR_load_47 : decode b_PR_load 47 = .ok (.invokevirtual 181, 3) := by decide +kernel
theorem d_PR_load_50 : decode b_PR_load 50 = .ok (.aload_n 0, 1) := by decide +kernel
theorem d_PR_load_51 : decode b_PR_load 51 = .ok (.dup, 1) := by decide +kernel
theorem d_PR_load_52 : decode b_PR_load 52 = .ok (.getfield 67, 3) := by decide +kernel
theorem d_PR_load_55 : decode b_PR_load 55 = .ok (.iload_n 1, 1) := by decide +kernel
theorem d_PR_load_56 : decode b_PR_load 56 = .ok (.isub, 1) := by decide +kernel
theorem d_PR_load_57 : decode b_PR_load 57 = .ok (.putfield 67, 3) := by decide +kernel
theorem d_PR_load_60 : decode b_PR_load 60 = .ok (.aload_n 0, 1) := by decide +kernel
theorem d_PR_load_61 : decode b_PR_load 61 = .ok (.dup, 1) := by decide +kernel
theorem d_PR_load_62 : decode b_PR_load 62 = .ok (.getfield 81, 3) := by decide +kernel
theorem d_PR_load_65 : decode b_PR_load 65 = .ok (.iload_n 1, 1) := by decide +kernel
theorem d_PR_load_66 : decode b_PR_load 66 = .ok (.isub, 1) := by decide +kernel
theorem d_PR_load_67 : decode b_PR_load 67 = .ok (.putfield 81, 3) := by decide +kernel
theorem d_PR_load_70 : decode b_PR_load 70 = .ok (.iconst 0, 1) := by decide +kernel
theorem d_PR_load_71 : decode b_PR_load 71 = .ok (.ireturn, 1) := by decide +kernel
theorem d_PR_moveBits_0 : decode b_PR_moveBits 0 = .ok (.aload_n 0, 1) := by decide +kernel
theorem d_PR_moveBits_1 : decode b_PR_moveBits 1 = .ok (.getfield 9, 3) := by decide +kernel
theorem d_PR_moveBits_4 : decode b_PR_moveBits 4 = .ok (.aload_n 0, 1) := by decide +kernel
theorem d_PR_moveBits_5 : decode b_PR_moveBits 5 = .ok (.getfield 67, 3) := by decide +kernel
theorem d_PR_moveBits_8 : decode b_PR_moveBits 8 = .ok (.invokevirtual 47, 3) := by decide +kernel
theorem d_PR_moveBits_11 : decode b_PR_moveBits 11 = .ok (.ifCond .eq 17, 3) := by decide +kernel
theorem d_PR_moveBits_14 : decode b_PR_moveBits 14 = .ok (.aload_n 0, 1) := by decide +kernel
theorem d_PR_moveBits_15 : decode b_PR_moveBits 15 = .ok (.getfield 9, 3) := by decide +kernel
theorem d_PR_moveBits_18 : decode b_PR_moveBits 18 = .ok (.aload_n 0, 1) := by decide +kernel
theorem d_PR_moveBits_19 : decode b_PR_moveBits 19 = .ok (.getfield 81, 3) := by decide +kernel
theorem d_PR_moveBits_22 : decode b_PR_moveBits 22 = .ok (.invokevirtual 47, 3) := by decide +kernel
theorem d_PR_moveBits_25 : decode b_PR_moveBits 25 = .ok (.ifCond .ne 5, 3) := by decide +kernel
theorem d_PR_moveBits_28 : decode b_PR_moveBits 28 = .ok (.iconst 2, 1) := by decide +kernel
theorem d_PR_moveBits_29 : decode b_PR_moveBits 29 = .ok (.ireturn, 1) := by decide +kernel
theorem d_PR_moveBits_30 : decode b_PR_moveBits 30 = .ok (.aload_n 0, 1) := by decide +kernel
theorem d_PR_moveBits_31 : decode b_PR_moveBits 31 = .ok (.getfield 9, 3) := by decide +kernel
theorem d_PR_moveBits_34 : decode b_PR_moveBits 34 = .ok (.aload_n 0, 1) := by decide +kernel
theorem d_PR_moveBits_35 : decode b_PR_moveBits 35 = .ok (.getfield 81, 3) := by decide +kernel
theorem d_PR_moveBits_38 : decode b_PR_moveBits 38 = .ok (.aload_n 0, 1) := by decide +kernel
theorem d_PR_moveBits_39 : decode b_PR_moveBits 39 = .ok (.getfield 9, 3) := by decide +kernel
theorem d_PR_moveBits_42 : decode b_PR_moveBits 42 = .ok (.aload_n 0, 1) := by decide +kernel
theorem d_PR_moveBits_43 : decode b_PR_moveBits 43 = .ok (.getfield 81, 3) := by decide +kernel
theorem d_PR_moveBits_46 : decode b_PR_moveBits 46 = .ok (.invokevirtual 56, 3) := by decide +kernel
theorem d_PR_moveBits_49 : decode b_PR_moveBits 49 = .ok (.iload_n 1, 1) := by decide +kernel
theorem d_PR_moveBits_50 : decode b_PR_moveBits 50 = .ok (.iconst (-1), 1) := by decide +kernel
theorem d_PR_moveBits_51 : decode b_PR_moveBits 51 = .ok (.ixor, 1) := by decide +kernel
theorem d_PR_moveBits_52 : decode b_PR_moveBits 52 = .ok (.iand, 1) := by decide +kernel
theorem d_PR_moveBits_53 : decode b_PR_moveBits 53 = .ok (.aload_n 0, 1) := by decide +kernel
theorem d_PR_moveBits_54 : decode b_PR_moveBits 54 = .ok (.getfield 9, 3) := by decide +kernel
theorem d_PR_moveBits_57 : decode b_PR_moveBits 57 = .ok (.aload_n 0, 1) := by decide +kernel
theorem d_PR_moveBits_58 : decode b_PR_moveBits 58 = .ok (.getfield 67, 3) := by decide +kernel
theorem d_PR_moveBits_61 : decode b_PR_moveBits 61 = .ok (.invokevirtual 56, 3) := by decide +kernel
theorem d_PR_moveBits_64 : decode b_PR_moveBits 64 = .ok (.iload_n 1, 1) := by decide +kernel
theorem d_PR_moveBits_65 : decode b_PR_moveBits 65 = .ok (.iand, 1) := by decide +kernel
theorem d_PR_moveBits_66 : decode b_PR_moveBits 66 = .ok (.ior, 1) := by decide +kernel
theorem d_PR_moveBits_67 : decode b_PR_moveBits 67 = .ok (.invokevirtual 175, 3) := by decide +kernel
theorem d_PR_moveBits_70 : decode b_PR_moveBits 70 = .ok (.aload_n 0, 1) := by decide +kernel
theorem d_PR_moveBits_71 : decode b_PR_moveBits 71 = .ok (.dup, 1) := by decide +kernel
theorem d_PR_moveBits_72 : decode b_PR_moveBits 72 = .ok (.getfield 67, 3) := by decide +kernel
theorem d_PR_moveBits_75 : decode b_PR_moveBits 75 = .ok (.iconst 1, 1) := by decide +kernel
theorem d_PR_moveBits_76 : decode b_PR_moveBits 76 = .ok (.isub, 1) := by decide +kernel
theorem d_PR_moveBits_77 : decode b_PR_moveBits 77 = .ok (.putfield 67, 3) := by decide +kernel
theorem d_PR_moveBits_80 : decode b_PR_moveBits 80 = .ok (.aload_n 0, 1) := by decide +kernel
theorem d_PR_moveBits_81 : decode b_PR_moveBits 81 = .ok (.dup, 1) := by decide +kernel
theorem d_PR_moveBits_82 : decode b_PR_moveBits 82 = .ok (.getfield 81, 3) := by decide +kernel
theorem d_PR_moveBits_85 : decode b_PR_moveBits 85 = .ok (.iconst 1, 1) := by decide +kernel
theorem d_PR_moveBits_86 : decode b_PR_moveBits 86 = .ok (.isub, 1) := by decide +kernel
theorem d_PR_moveBits_87 : decode b_PR_moveBits 87 = .ok (.putfield 81, 3) := by decide +kernel
theorem d_PR_moveBits_90 : decode b_PR_moveBits 90 = .ok (.iconst 0, 1) := by decide +kernel
theorem d_PR_moveBits_91 : decode b_PR_moveBits 91 = .ok (.ireturn, 1) := by decide +kernel
theorem d_PR_compare_0 : decode b_PR_compare 0 = .ok (.aload_n 0, 1) := by decide +kernel
theorem d_PR_compare_1 : decode b_PR_compare 1 = .ok (.getfield 9, 3) := by decide +kernel
theorem d_PR_compare_4 : decode b_PR_compare 4 = .ok (.aload_n 0, 1) := by decide +kernel
theorem d_PR_compare_5 : decode b_PR_compare 5 = .ok (.getfield 67, 3) := by decide +kernel
theorem d_PR_compare_8 : decode b_PR_compare 8 = .ok (.aload_n 0, 1) := by decide +kernel
theorem d_PR_compare_9 : decode b_PR_compare 9 = .ok (.getfield 81, 3) := by decide +kernel
theorem d_PR_compare_12 : decode b_PR_compare 12 = .ok (.invokevirtual 172, 3) := by decide +kernel
theorem d_PR_compare_15 : decode b_PR_compare 15 = .ok (.istore_n 1, 1) := by decide +kernel
theorem d_PR_compare_16 : decode b_PR_compare 16 = .ok (.iload_n 1, 1) := by decide +kernel
theorem d_PR_compare_17 : decode b_PR_compare 17 = .ok (.iconst (-1), 1) := by decide +kernel
theorem d_PR_compare_18 : decode b_PR_compare 18 = .ok (.if_icmp .ne 5, 3) := by decide +kernel
theorem d_PR_compare_21 : decode b_PR_compare 21 = .ok (.iconst 2, 1) := by decide +kernel
theorem d_PR_compare_22 : decode b_PR_compare 22 = .ok (.ireturn, 1) := by decide +kernel
theorem d_PR_compare_23 : decode b_PR_compare 23 = .ok (.aload_n 0, 1) := by decide +kernel
theorem d_PR_compare_24 : decode b_PR_compare 24 = .ok (.aload_n 0, 1) := by decide +kernel
theorem d_PR_compare_25 : decode b_PR_compare 25 = .ok (.getfield 9, 3) := by decide +kernel
theorem d_PR_compare_28 : decode b_PR_compare 28 = .ok (.aload_n 0, 1) := by decide +kernel
theorem d_PR_compare_29 : decode b_PR_compare 29 = .ok (.getfield 81, 3) := by decide +kernel
theorem d_PR_compare_32 : decode b_PR_compare 32 = .ok (.iload_n 1, 1) := by decide +kernel
theorem d_PR_compare_33 : decode b_PR_compare 33 = .ok (.isub, 1) := by decide +kernel
theorem d_PR_compare_34 : decode b_PR_compare 34 = .ok (.iconst 1, 1) := by decide +kernel
theorem d_PR_compare_35 : decode b_PR_compare 35 = .ok (.iadd, 1) := by decide +kernel
theorem d_PR_compare_36 : decode b_PR_compare 36 = .ok (.invokevirtual 53, 3) := by decide +kernel
theorem d_PR_compare_39 : decode b_PR_compare 39 = .ok (.ifCond .eq 11, 3) := by decide +kernel
theorem d_PR_compare_42 : decode b_PR_compare 42 = .ok (.aload_n 0, 1) := by decide +kernel
theorem d_PR_compare_43 : decode b_PR_compare 43 = .ok (.iload_n 1, 1) := by decide +kernel
theorem d_PR_compare_44 : decode b_PR_compare 44 = .ok (.invokevirtual 184, 3) := by decide +kernel
theorem d_PR_compare_47 : decode b_PR_compare 47 = .ok (.goto 4, 3) := by decide +kernel
theorem d_PR_compare_50 : decode b_PR_compare 50 = .ok (.iconst 1, 1) := by decide +kernel
theorem d_PR_compare_51 : decode b_PR_compare 51 = .ok (.putfield 187, 3) := by decide +kernel
theorem d_PR_compare_54 : decode b_PR_compare 54 = .ok (.aload_n 0, 1) := by decide +kernel
theorem d_PR_compare_55 : decode b_PR_compare 55 = .ok (.dup, 1) := by decide +kernel
theorem d_PR_compare_56 : decode b_PR_compare 56 = .ok (.getfield 67, 3) := by decide +kernel
theorem d_PR_compare_59 : decode b_PR_compare 59 = .ok (.iload_n 1, 1) := by decide +kernel
theorem d_PR_compare_60 : decode b_PR_compare 60 = .ok (.isub, 1) := by decide +kernel
theorem d_PR_compare_61 : decode b_PR_compare 61 = .ok (.putfield 67, 3) := by decide +kernel
theorem d_PR_compare_64 : decode b_PR_compare 64 = .ok (.aload_n 0, 1) := by decide +kernel
theorem d_PR_compare_65 : decode b_PR_compare 65 = .ok (.dup, 1) := by decide +kernel
theorem d_PR_compare_66 : decode b_PR_compare 66 = .ok (.getfield 81, 3) := by decide +kernel
theorem d_PR_compare_69 : decode b_PR_compare 69 = .ok (.iload_n 1, 1) := by decide +kernel
theorem d_PR_compare_70 : decode b_PR_compare 70 = .ok (.isub, 1) := by decide +kernel
theorem d_PR_compare_71 : decode b_PR_compare 71 = .ok (.putfield 81, 3) := by decide +kernel
theorem d_PR_compare_74 : decode b_PR_compare 74 = .ok (.iconst 0, 1) := by decide +kernel
theorem d_PR_compare_75 : decode b_PR_compare 75 = .ok (.ireturn, 1) := by decide +kernel
theorem d_PR_orderOf_0 : decode b_PR_orderOf 0 = .ok (.iload_n 1, 1) := by decide +kernel
theorem d_PR_orderOf_1 : decode b_PR_orderOf 1 = .ok (.iconst 1, 1) := by decide +kernel
theorem d_PR_orderOf_2 : decode b_PR_orderOf 2 = .ok (.isub, 1) := by decide +kernel
theorem d_PR_orderOf_3 : decode b_PR_orderOf 3 = .ok (.istore_n 2, 1) := by decide +kernel
theorem d_PR_orderOf_4 : decode b_PR_orderOf 4 = .ok (.iload_n 2, 1) := by decide +kernel
theorem d_PR_orderOf_5 : decode b_PR_orderOf 5 = .ok (.ifCond .lt 51, 3) := by decide +kernel
theorem d_PR_orderOf_8 : decode b_PR_orderOf 8 = .ok (.aload_n 0, 1) := by decide +kernel
theorem d_PR_orderOf_9 : decode b_PR_orderOf 9 = .ok (.getfield 9, 3) := by decide +kernel
theorem d_PR_orderOf_12 : decode b_PR_orderOf 12 = .ok (.aload_n 0, 1) := by decide +kernel
theorem d_PR_orderOf_13 : decode b_PR_orderOf 13 = .ok (.getfield 81, 3) := by decide +kernel
theorem d_PR_orderOf_16 : decode b_PR_orderOf 16 = .ok (.iload_n 2, 1) := by decide +kernel
theorem d_PR_orderOf_17 : decode b_PR_orderOf 17 = .ok (.isub, 1) := by decide +kernel
theorem d_PR_orderOf_18 : decode b_PR_orderOf 18 = .ok (.invokevirtual 56, 3) := by decide +kernel
theorem d_PR_orderOf_21 : decode b_PR_orderOf 21 = .ok (.invokestatic 190, 3) := by decide +kernel
theorem d_PR_orderOf_24 : decode b_PR_orderOf 24 = .ok (.aload_n 0, 1) := by decide +kernel
theorem d_PR_orderOf_25 : decode b_PR_orderOf 25 = .ok (.getfield 9, 3) := by decide +kernel
theorem d_PR_orderOf_28 : decode b_PR_orderOf 28 = .ok (.aload_n 0, 1) := by decide +kernel
theorem d_PR_orderOf_29 : decode b_PR_orderOf 29 = .ok (.getfield 67, 3) := by decide +kernel
theorem d_PR_orderOf_32 : decode b_PR_orderOf 32 = .ok (.iload_n 2, 1) := by decide +kernel
theorem d_PR_orderOf_33 : decode b_PR_orderOf 33 = .ok (.isub, 1) := by decide +kernel
theorem d_PR_orderOf_34 : decode b_PR_orderOf 34 = .ok (.invokevirtual 56, 3) := by decide +kernel
theorem d_PR_orderOf_37 : decode b_PR_orderOf 37 = .ok (.invokestatic 190, 3) := by decide +kernel
theorem d_PR_orderOf_40 : decode b_PR_orderOf 40 = .ok (.invokestatic 193, 3) := by decide +kernel
theorem d_PR_orderOf_43 : decode b_PR_orderOf 43 = .ok (.istore_n 3, 1) := by decide +kernel
theorem d_PR_orderOf_44 : decode b_PR_orderOf 44 = .ok (.iload_n 3, 1) := by decide +kernel
theorem d_PR_orderOf_45 : decode b_PR_orderOf 45 = .ok (.ifCond .eq 5, 3) := by decide +kernel
theorem d_PR_orderOf_48 : decode b_PR_orderOf 48 = .ok (.iload_n 3, 1) := by decide +kernel
theorem d_PR_orderOf_49 : decode b_PR_orderOf 49 = .ok (.ireturn, 1) := by decide +kernel
theorem d_PR_orderOf_50 : decode b_PR_orderOf 50 = .ok (.iinc 2 (-1), 3) := by decide +kernel
theorem d_PR_orderOf_53 : decode b_PR_orderOf 53 = .ok (.goto (-49), 3) := by decide +kernel
theorem d_PR_orderOf_56 : decode b_PR_orderOf 56 = .ok (.iconst 0, 1) := by decide +kernel
theorem d_PR_orderOf_57 : decode b_PR_orderOf 57 = .ok (.ireturn, 1) := by decide +kernel
theorem d_PR_rank_0 : decode b_PR_rank 0 = .ok (.iload_n 0, 1) := by decide +kernel
theorem d_PR_rank_1 : decode b_PR_rank 1 = .ok (.bipush 15, 2) := by decide +kernel
theorem d_PR_rank_3 : decode b_PR_rank 3 = .ok (.iand, 1) := by decide +kernel
theorem d_PR_rank_4 : decode b_PR_rank 4 = .ok (.istore_n 1, 1) := by decide +kernel
theorem d_PR_rank_5 : decode b_PR_rank 5 = .ok (.iload_n 1, 1) := by decide +kernel
theorem d_PR_rank_6 : decode b_PR_rank 6 = .ok (.ifCond .eq 9, 3) := by decide +kernel
theorem d_PR_rank_9 : decode b_PR_rank 9 = .ok (.iload_n 1, 1) := by decide +kernel
theorem d_PR_rank_10 : decode b_PR_rank 10 = .ok (.bipush 10, 2) := by decide +kernel
theorem d_PR_rank_12 : decode b_PR_rank 12 = .ok (.if_icmp .le 7, 3) := by decide +kernel
theorem d_PR_rank_15 : decode b_PR_rank 15 = .ok (.iconst 1, 1) := by decide +kernel
theorem d_PR_rank_16 : decode b_PR_rank 16 = .ok (.goto 4, 3) := by decide +kernel
theorem d_PR_rank_19 : decode b_PR_rank 19 = .ok (.iconst 0, 1) := by decide +kernel
theorem d_PR_rank_20 : decode b_PR_rank 20 = .ok (.istore_n 2, 1) := by decide +kernel
theorem d_PR_rank_21 : decode b_PR_rank 21 = .ok (.iload_n 1, 1) := by decide +kernel
theorem d_PR_rank_22 : decode b_PR_rank 22 = .ok (.bipush 10, 2) := by decide +kernel
theorem d_PR_rank_24 : decode b_PR_rank 24 = .ok (.if_icmp .ne 7, 3) := by decide +kernel
theorem d_PR_rank_27 : decode b_PR_rank 27 = .ok (.iconst 0, 1) := by decide +kernel
theorem d_PR_rank_28 : decode b_PR_rank 28 = .ok (.goto 4, 3) := by decide +kernel
theorem d_PR_rank_31 : decode b_PR_rank 31 = .ok (.iload_n 1, 1) := by decide +kernel
theorem d_PR_rank_32 : decode b_PR_rank 32 = .ok (.istore_n 3, 1) := by decide +kernel
theorem d_PR_rank_33 : decode b_PR_rank 33 = .ok (.bipush 48, 2) := by decide +kernel
theorem d_PR_rank_35 : decode b_PR_rank 35 = .ok (.iload_n 0, 1) := by decide +kernel
theorem d_PR_rank_36 : decode b_PR_rank 36 = .ok (.bipush 48, 2) := by decide +kernel
theorem d_PR_rank_38 : decode b_PR_rank 38 = .ok (.iand, 1) := by decide +kernel
theorem d_PR_rank_39 : decode b_PR_rank 39 = .ok (.isub, 1) := by decide +kernel
theorem d_PR_rank_40 : decode b_PR_rank 40 = .ok (.istore 4, 2) := by decide +kernel
theorem d_PR_rank_42 : decode b_PR_rank 42 = .ok (.iload_n 2, 1) := by decide +kernel
theorem d_PR_rank_43 : decode b_PR_rank 43 = .ok (.ifCond .eq 7, 3) := by decide +kernel
theorem d_PR_rank_46 : decode b_PR_rank 46 = .ok (.iconst 0, 1) := by decide +kernel
theorem d_PR_rank_47 : decode b_PR_rank 47 = .ok (.goto 5, 3) := by decide +kernel
theorem d_PR_rank_50 : decode b_PR_rank 50 = .ok (.bipush 64, 2) := by decide +kernel
theorem d_PR_rank_52 : decode b_PR_rank 52 = .ok (.iload 4, 2) := by decide +kernel
theorem d_PR_rank_54 : decode b_PR_rank 54 = .ok (.iadd, 1) := by decide +kernel
theorem d_PR_rank_55 : decode b_PR_rank 55 = .ok (.iload_n 3, 1) := by decide +kernel
theorem d_PR_rank_56 : decode b_PR_rank 56 = .ok (.iadd, 1) := by decide +kernel
theorem d_PR_rank_57 : decode b_PR_rank 57 = .ok (.ireturn, 1) := by decide +kernel
theorem d_PR_changeMarks_0 : decode b_PR_changeMarks 0 = .ok (.aload_n 0, 1) := by decide +kernel
theorem d_PR_changeMarks_1 : decode b_PR_changeMarks 1 = .ok (.getfield 9, 3) := by decide +kernel
theorem d_PR_changeMarks_4 : decode b_PR_changeMarks 4 = .ok (.aload_n 0, 1) := by decide +kernel
theorem d_PR_changeMarks_5 : decode b_PR_changeMarks 5 = .ok (.getfield 67, 3) := by decide +kernel
theorem d_PR_changeMarks_8 : decode b_PR_changeMarks 8 = .ok (.invokevirtual 47, 3) := by decide +kernel
theorem d_PR_changeMarks_11 : decode b_PR_changeMarks 11 = .ok (.ifCond .eq 17, 3) := by decide +kernel
theorem d_PR_changeMarks_14 : decode b_PR_changeMarks 14 = .ok (.aload_n 0, 1) := by decide +kernel
theorem d_PR_changeMarks_15 : decode b_PR_changeMarks 15 = .ok (.getfield 9, 3) := by decide +kernel
theorem d_PR_changeMarks_18 : decode b_PR_changeMarks 18 = .ok (.aload_n 0, 1) := by decide +kernel
theorem d_PR_changeMarks_19 : decode b_PR_changeMarks 19 = .ok (.getfield 81, 3) := by decide +kernel
theorem d_PR_changeMarks_22 : decode b_PR_changeMarks 22 = .ok (.invokevirtual 47, 3) := by decide +kernel
theorem d_PR_changeMarks_25 : decode b_PR_changeMarks 25 = .ok (.ifCond .ne 5, 3) := by decide +kernel
theorem d_PR_changeMarks_28 : decode b_PR_changeMarks 28 = .ok (.iconst 2, 1) := by decide +kernel
theorem d_PR_changeMarks_29 : decode b_PR_changeMarks 29 = .ok (.ireturn, 1) := by decide +kernel
theorem d_PR_changeMarks_30 : decode b_PR_changeMarks 30 = .ok (.aload_n 0, 1) := by decide +kernel
theorem d_PR_changeMarks_31 : decode b_PR_changeMarks 31 = .ok (.getfield 9, 3) := by decide +kernel
theorem d_PR_changeMarks_34 : decode b_PR_changeMarks 34 = .ok (.aload_n 0, 1) := by decide +kernel
theorem d_PR_changeMarks_35 : decode b_PR_changeMarks 35 = .ok (.getfield 67, 3) := by decide +kernel
theorem d_PR_changeMarks_38 : decode b_PR_changeMarks 38 = .ok (.iload_n 1, 1) := by decide +kernel
theorem d_PR_changeMarks_39 : decode b_PR_changeMarks 39 = .ok (.invokevirtual 197, 3) := by decide +kernel
theorem d_PR_changeMarks_42 : decode b_PR_changeMarks 42 = .ok (.aload_n 0, 1) := by decide +kernel
theorem d_PR_changeMarks_43 : decode b_PR_changeMarks 43 = .ok (.getfield 9, 3) := by decide +kernel
theorem d_PR_changeMarks_46 : decode b_PR_changeMarks 46 = .ok (.aload_n 0, 1) := by decide +kernel
theorem d_PR_changeMarks_47 : decode b_PR_changeMarks 47 = .ok (.getfield 81, 3) := by decide +kernel
theorem d_PR_changeMarks_50 : decode b_PR_changeMarks 50 = .ok (.iload_n 1, 1) := by decide +kernel
theorem d_PR_changeMarks_51 : decode b_PR_changeMarks 51 = .ok (.invokevirtual 197, 3) := by decide +kernel
theorem d_PR_changeMarks_54 : decode b_PR_changeMarks 54 = .ok (.aload_n 0, 1) := by decide +kernel
theorem d_PR_changeMarks_55 : decode b_PR_changeMarks 55 = .ok (.dup, 1) := by decide +kernel
theorem d_PR_changeMarks_56 : decode b_PR_changeMarks 56 = .ok (.getfield 67, 3) := by decide +kernel
theorem d_PR_changeMarks_59 : decode b_PR_changeMarks 59 = .ok (.iconst 1, 1) := by decide +kernel
theorem d_PR_changeMarks_60 : decode b_PR_changeMarks 60 = .ok (.isub, 1) := by decide +kernel
theorem d_PR_changeMarks_61 : decode b_PR_changeMarks 61 = .ok (.putfield 67, 3) := by decide +kernel
theorem d_PR_changeMarks_64 : decode b_PR_changeMarks 64 = .ok (.aload_n 0, 1) := by decide +kernel
theorem d_PR_changeMarks_65 : decode b_PR_changeMarks 65 = .ok (.dup, 1) := by decide +kernel
theorem d_PR_changeMarks_66 : decode b_PR_changeMarks 66 = .ok (.getfield 81, 3) := by decide +kernel
theorem d_PR_changeMarks_69 : decode b_PR_changeMarks 69 = .ok (.iconst 1, 1) := by decide +kernel
theorem d_PR_changeMarks_70 : decode b_PR_changeMarks 70 = .ok (.isub, 1) := by decide +kernel
theorem d_PR_changeMarks_71 : decode b_PR_changeMarks 71 = .ok (.putfield 81, 3) := by decide +kernel
theorem d_PR_changeMarks_74 : decode b_PR_changeMarks 74 = .ok (.iconst 0, 1) := by decide +kernel
theorem d_PR_changeMarks_75 : decode b_PR_changeMarks 75 = .ok (.ireturn, 1) := by decide +kernel
theorem d_PR_clear_0 : decode b_PR_clear 0 = .ok (.aload_n 0, 1) := by decide +kernel
theorem d_PR_clear_1 : decode b_PR_clear 1 = .ok (.getfield 9, 3) := by decide +kernel
theorem d_PR_clear_4 : decode b_PR_clear 4 = .ok (.aload_n 0, 1) := by decide +kernel
theorem d_PR_clear_5 : decode b_PR_clear 5 = .ok (.getfield 81, 3) := by decide +kernel
theorem d_PR_clear_8 : decode b_PR_clear 8 = .ok (.invokevirtual 47, 3) := by decide +kernel
theorem d_PR_clear_11 : decode b_PR_clear 11 = .ok (.ifCond .ne 5, 3) := by decide +kernel
theorem d_PR_clear_14 : decode b_PR_clear 14 = .ok (.iconst 2, 1) := by decide +kernel
theorem d_PR_clear_15 : decode b_PR_clear 15 = .ok (.ireturn, 1) := by decide +kernel
theorem d_PR_clear_16 : decode b_PR_clear 16 = .ok (.aload_n 0, 1) := by decide +kernel
theorem d_PR_clear_17 : decode b_PR_clear 17 = .ok (.getfield 81, 3) := by decide +kernel
theorem d_PR_clear_20 : decode b_PR_clear 20 = .ok (.aload_n 0, 1) := by decide +kernel
theorem d_PR_clear_21 : decode b_PR_clear 21 = .ok (.getfield 81, 3) := by decide +kernel
theorem d_PR_clear_24 : decode b_PR_clear 24 = .ok (.bipush 100, 2) := by decide +kernel
theorem d_PR_clear_26 : decode b_PR_clear 26 = .ok (.irem, 1) := by decide +kernel
theorem d_PR_clear_27 : decode b_PR_clear 27 = .ok (.isub, 1) := by decide +kernel
theorem d_PR_clear_28 : decode b_PR_clear 28 = .ok (.istore_n 2, 1) := by decide +kernel
theorem d_PR_clear_29 : decode b_PR_clear 29 = .ok (.aload_n 0, 1) := by decide +kernel
theorem d_PR_clear_30 : decode b_PR_clear 30 = .ok (.getfield 81, 3) := by decide +kernel
theorem d_PR_clear_33 : decode b_PR_clear 33 = .ok (.istore_n 3, 1) := by decide +kernel
theorem d_PR_clear_34 : decode b_PR_clear 34 = .ok (.iload_n 3, 1) := by decide +kernel
theorem d_PR_clear_35 : decode b_PR_clear 35 = .ok (.iload_n 2, 1) := by decide +kernel
theorem d_PR_clear_36 : decode b_PR_clear 36 = .ok (.if_icmp .lt 19, 3) := by decide +kernel
theorem d_PR_clear_39 : decode b_PR_clear 39 = .ok (.aload_n 0, 1) := by decide +kernel
theorem d_PR_clear_40 : decode b_PR_clear 40 = .ok (.getfield 9, 3) := by decide +kernel
theorem d_PR_clear_43 : decode b_PR_clear 43 = .ok (.iload_n 3, 1) := by decide +kernel
theorem d_PR_clear_44 : decode b_PR_clear 44 = .ok (.iconst 0, 1) := by decide +kernel
theorem d_PR_clear_45 : decode b_PR_clear 45 = .ok (.iconst 0, 1) := by decide +kernel
theorem d_PR_clear_46 : decode b_PR_clear 46 = .ok (.invokevirtual 200, 3) := by decide +kernel
theorem d_PR_clear_49 : decode b_PR_clear 49 = .ok (.iinc 3 (-1), 3) := by decide +kernel
theorem d_PR_clear_52 : decode b_PR_clear 52 = .ok (.goto (-18), 3) := by decide +kernel
theorem d_PR_clear_55 : decode b_PR_clear 55 = .ok (.aload_n 0, 1) := by decide +kernel
theorem d_PR_clear_56 : decode b_PR_clear 56 = .ok (.iload_n 2, 1) := by decide +kernel
theorem d_PR_clear_57 : decode b_PR_clear 57 = .ok (.iconst 1, 1) := by decide +kernel
theorem d_PR_clear_58 : decode b_PR_clear 58 = .ok (.isub, 1) := by decide +kernel
theorem d_PR_clear_59 : decode b_PR_clear 59 = .ok (.putfield 81, 3) := by decide +kernel
theorem d_PR_clear_62 : decode b_PR_clear 62 = .ok (.iload_n 1, 1) := by decide +kernel
theorem d_PR_clear_63 : decode b_PR_clear 63 = .ok (.ifCond .eq 7, 3) := by decide +kernel
theorem d_PR_clear_66 : decode b_PR_clear 66 = .ok (.aload_n 0, 1) := by decide +kernel
theorem d_PR_clear_67 : decode b_PR_clear 67 = .ok (.invokevirtual 203, 3) := by decide +kernel
theorem d_PR_clear_70 : decode b_PR_clear 70 = .ok (.iconst 0, 1) := by decide +kernel
theorem d_PR_clear_71 : decode b_PR_clear 71 = .ok (.ireturn, 1) := by decide +kernel
theorem d_PR_suppressZeros_0 : decode b_PR_suppressZeros 0 = .ok (.aload_n 0, 1) := by decide +kernel
theorem d_PR_suppressZeros_1 : decode b_PR_suppressZeros 1 = .ok (.getfield 9, 3) := by decide +kernel
theorem d_PR_suppressZeros_4 : decode b_PR_suppressZeros 4 = .ok (.aload_n 0, 1) := by decide +kernel
theorem d_PR_suppressZeros_5 : decode b_PR_suppressZeros 5 = .ok (.getfield 67, 3) := by decide +kernel
theorem d_PR_suppressZeros_8 : decode b_PR_suppressZeros 8 = .ok (.invokevirtual 132, 3) := by decide +kernel
theorem d_PR_suppressZeros_11 : decode b_PR_suppressZeros 11 = .ok (.istore_n 1, 1) := by decide +kernel
theorem d_PR_suppressZeros_12 : decode b_PR_suppressZeros 12 = .ok (.iload_n 1, 1) := by decide +kernel
theorem d_PR_suppressZeros_13 : decode b_PR_suppressZeros 13 = .ok (.iconst (-1), 1) := by decide +kernel
theorem d_PR_suppressZeros_14 : decode b_PR_suppressZeros 14 = .ok (.if_icmp .eq 18, 3) := by decide +kernel
theorem d_PR_suppressZeros_17 : decode b_PR_suppressZeros 17 = .ok (.aload_n 0, 1) := by decide +kernel
theorem d_PR_suppressZeros_18 : decode b_PR_suppressZeros 18 = .ok (.getfield 9, 3) := by decide +kernel
theorem d_PR_suppressZeros_21 : decode b_PR_suppressZeros 21 = .ok (.aload_n 0, 1) := by decide +kernel
theorem d_PR_suppressZeros_22 : decode b_PR_suppressZeros 22 = .ok (.getfield 81, 3) := by decide +kernel
theorem d_PR_suppressZeros_25 : decode b_PR_suppressZeros 25 = .ok (.iload_n 1, 1) := by decide +kernel
theorem d_PR_suppressZeros_26 : decode b_PR_suppressZeros 26 = .ok (.invokevirtual 178, 3) := by decide +kernel
theorem d_PR_suppressZeros_29 : decode b_PR_suppressZeros 29 = .ok (.ifCond .ne 5, 3) := by decide +kernel
theorem d_PR_suppressZeros_32 : decode b_PR_suppressZeros 32 = .ok (.iconst 2, 1) := by decide +kernel
theorem d_PR_suppressZeros_33 : decode b_PR_suppressZeros 33 = .ok (.ireturn, 1) := by decide +kernel
theorem d_PR_suppressZeros_34 : decode b_PR_suppressZeros 34 = .ok (.aload_n 0, 1) := by decide +kernel
theorem d_PR_suppressZeros_35 : decode b_PR_suppressZeros 35 = .ok (.getfield 9, 3) := by decide +kernel
theorem d_PR_suppressZeros_38 : decode b_PR_suppressZeros 38 = .ok (.aload_n 0, 1) := by decide +kernel
theorem d_PR_suppressZeros_39 : decode b_PR_suppressZeros 39 = .ok (.getfield 81, 3) := by decide +kernel
theorem d_PR_suppressZeros_42 : decode b_PR_suppressZeros 42 = .ok (.aload_n 0, 1) := by decide +kernel
theorem d_PR_suppressZeros_43 : decode b_PR_suppressZeros 43 = .ok (.getfield 9, 3) := by decide +kernel
theorem d_PR_suppressZeros_46 : decode b_PR_suppressZeros 46 = .ok (.aload_n 0, 1) := by decide +kernel
theorem d_PR_suppressZeros_47 : decode b_PR_suppressZeros 47 = .ok (.getfield 67, 3) := by decide +kernel
theorem d_PR_suppressZeros_50 : decode b_PR_suppressZeros 50 = .ok (.invokevirtual 56, 3) := by decide +kernel
theorem d_PR_suppressZeros_53 : decode b_PR_suppressZeros 53 = .ok (.bipush 15, 2) := by decide +kernel
theorem d_PR_suppressZeros_55 : decode b_PR_suppressZeros 55 = .ok (.iand, 1) := by decide +kernel
theorem d_PR_suppressZeros_56 : decode b_PR_suppressZeros 56 = .ok (.invokevirtual 175, 3) := by decide +kernel
theorem d_PR_suppressZeros_59 : decode b_PR_suppressZeros 59 = .ok (.iconst 1, 1) := by decide +kernel
theorem d_PR_suppressZeros_60 : decode b_PR_suppressZeros 60 = .ok (.istore_n 2, 1) := by decide +kernel
theorem d_PR_suppressZeros_61 : decode b_PR_suppressZeros 61 = .ok (.iload_n 2, 1) := by decide +kernel
theorem d_PR_suppressZeros_62 : decode b_PR_suppressZeros 62 = .ok (.iload_n 1, 1) := by decide +kernel
theorem d_PR_suppressZeros_63 : decode b_PR_suppressZeros 63 = .ok (.if_icmp .ge 35, 3) := by decide +kernel
theorem d_PR_suppressZeros_66 : decode b_PR_suppressZeros 66 = .ok (.aload_n 0, 1) := by decide +kernel
theorem d_PR_suppressZeros_67 : decode b_PR_suppressZeros 67 = .ok (.getfield 9, 3) := by decide +kernel
theorem d_PR_suppressZeros_70 : decode b_PR_suppressZeros 70 = .ok (.aload_n 0, 1) := by decide +kernel
theorem d_PR_suppressZeros_71 : decode b_PR_suppressZeros 71 = .ok (.getfield 81, 3) := by decide +kernel
theorem d_PR_suppressZeros_74 : decode b_PR_suppressZeros 74 = .ok (.iload_n 2, 1) := by decide +kernel
theorem d_PR_suppressZeros_75 : decode b_PR_suppressZeros 75 = .ok (.isub, 1) := by decide +kernel
theorem d_PR_suppressZeros_76 : decode b_PR_suppressZeros 76 = .ok (.aload_n 0, 1) := by decide +kernel
theorem d_PR_suppressZeros_77 : decode b_PR_suppressZeros 77 = .ok (.getfield 9, 3) := by decide +kernel
theorem d_PR_suppressZeros_80 : decode b_PR_suppressZeros 80 = .ok (.aload_n 0, 1) := by decide +kernel
theorem d_PR_suppressZeros_81 : decode b_PR_suppressZeros 81 = .ok (.getfield 67, 3) := by decide +kernel
theorem d_PR_suppressZeros_84 : decode b_PR_suppressZeros 84 = .ok (.iload_n 2, 1) := by decide +kernel
theorem d_PR_suppressZeros_85 : decode b_PR_suppressZeros 85 = .ok (.isub, 1) := by decide +kernel
theorem d_PR_suppressZeros_86 : decode b_PR_suppressZeros 86 = .ok (.invokevirtual 56, 3) := by decide +kernel
theorem d_PR_suppressZeros_89 : decode b_PR_suppressZeros 89 = .ok (.invokevirtual 175, 3) := by decide +kernel
theorem d_PR_suppressZeros_92 : decode b_PR_suppressZeros 92 = .ok (.iinc 2 1, 3) := by decide +kernel
theorem d_PR_suppressZeros_95 : decode b_PR_suppressZeros 95 = .ok (.goto (-34), 3) := by decide +kernel
theorem d_PR_suppressZeros_98 : decode b_PR_suppressZeros 98 = .ok (.iload_n 1, 1) := by decide +kernel
theorem d_PR_suppressZeros_99 : decode b_PR_suppressZeros 99 = .ok (.iconst 1, 1) := by decide +kernel
theorem d_PR_suppressZeros_100 : decode b_PR_suppressZeros 100 = .ok (.isub, 1) := by decide +kernel
theorem d_PR_suppressZeros_101 : decode b_PR_suppressZeros 101 = .ok (.istore_n 2, 1) := by decide +kernel
theorem d_PR_suppressZeros_102 : decode b_PR_suppressZeros 102 = .ok (.iload_n 2, 1) := by decide +kernel
theorem d_PR_suppressZeros_103 : decode b_PR_suppressZeros 103 = .ok (.ifCond .lt 42, 3) := by decide +kernel
theorem d_PR_suppressZeros_106 : decode b_PR_suppressZeros 106 = .ok (.aload_n 0, 1) := by decide +kernel
theorem d_PR_suppressZeros_107 : decode b_PR_suppressZeros 107 = .ok (.getfield 9, 3) := by decide +kernel
theorem d_PR_suppressZeros_110 : decode b_PR_suppressZeros 110 = .ok (.aload_n 0, 1) := by decide +kernel
theorem d_PR_suppressZeros_111 : decode b_PR_suppressZeros 111 = .ok (.getfield 81, 3) := by decide +kernel
theorem d_PR_suppressZeros_114 : decode b_PR_suppressZeros 114 = .ok (.iload_n 2, 1) := by decide +kernel
theorem d_PR_suppressZeros_115 : decode b_PR_suppressZeros 115 = .ok (.isub, 1) := by decide +kernel
theorem d_PR_suppressZeros_116 : decode b_PR_suppressZeros 116 = .ok (.invokevirtual 56, 3) := by decide +kernel
theorem d_PR_suppressZeros_119 : decode b_PR_suppressZeros 119 = .ok (.invokestatic 206, 3) := by decide +kernel
theorem d_PR_suppressZeros_122 : decode b_PR_suppressZeros 122 = .ok (.ifCond .eq 23, 3) := by decide +kernel
theorem d_PR_suppressZeros_125 : decode b_PR_suppressZeros 125 = .ok (.aload_n 0, 1) := by decide +kernel
theorem d_PR_suppressZeros_126 : decode b_PR_suppressZeros 126 = .ok (.getfield 9, 3) := by decide +kernel
theorem d_PR_suppressZeros_129 : decode b_PR_suppressZeros 129 = .ok (.aload_n 0, 1) := by decide +kernel
theorem d_PR_suppressZeros_130 : decode b_PR_suppressZeros 130 = .ok (.getfield 81, 3) := by decide +kernel
theorem d_PR_suppressZeros_133 : decode b_PR_suppressZeros 133 = .ok (.iload_n 2, 1) := by decide +kernel
theorem d_PR_suppressZeros_134 : decode b_PR_suppressZeros 134 = .ok (.isub, 1) := by decide +kernel
theorem d_PR_suppressZeros_135 : decode b_PR_suppressZeros 135 = .ok (.iconst 0, 1) := by decide +kernel
theorem d_PR_suppressZeros_136 : decode b_PR_suppressZeros 136 = .ok (.invokevirtual 175, 3) := by decide +kernel
theorem d_PR_suppressZeros_139 : decode b_PR_suppressZeros 139 = .ok (.iinc 2 (-1), 3) := by decide +kernel
theorem d_PR_suppressZeros_142 : decode b_PR_suppressZeros 142 = .ok (.goto (-40), 3) := by decide +kernel
theorem d_PR_suppressZeros_145 : decode b_PR_suppressZeros 145 = .ok (.aload_n 0, 1) := by decide +kernel
theorem d_PR_suppressZeros_146 : decode b_PR_suppressZeros 146 = .ok (.dup, 1) := by decide +kernel
theorem d_PR_suppressZeros_147 : decode b_PR_suppressZeros 147 = .ok (.getfield 67, 3) := by decide +kernel
theorem d_PR_suppressZeros_150 : decode b_PR_suppressZeros 150 = .ok (.iload_n 1, 1) := by decide +kernel
theorem d_PR_suppressZeros_151 : decode b_PR_suppressZeros 151 = .ok (.isub, 1) := by decide +kernel
theorem d_PR_suppressZeros_152 : decode b_PR_suppressZeros 152 = .ok (.putfield 67, 3) := by decide +kernel
theorem d_PR_suppressZeros_155 : decode b_PR_suppressZeros 155 = .ok (.aload_n 0, 1) := by decide +kernel
theorem d_PR_suppressZeros_156 : decode b_PR_suppressZeros 156 = .ok (.dup, 1) := by decide +kernel
theorem d_PR_suppressZeros_157 : decode b_PR_suppressZeros 157 = .ok (.getfield 81, 3) := by decide +kernel
theorem d_PR_suppressZeros_160 : decode b_PR_suppressZeros 160 = .ok (.iconst 1, 1) := by decide +kernel
theorem d_PR_suppressZeros_161 : decode b_PR_suppressZeros 161 = .ok (.iadd, 1) := by decide +kernel
theorem d_PR_suppressZeros_162 : decode b_PR_suppressZeros 162 = .ok (.putfield 81, 3) := by decide +kernel
theorem d_PR_suppressZeros_165 : decode b_PR_suppressZeros 165 = .ok (.iconst 0, 1) := by decide +kernel
theorem d_PR_suppressZeros_166 : decode b_PR_suppressZeros 166 = .ok (.ireturn, 1) := by decide +kernel
theorem d_PR_isSuppressed_0 : decode b_PR_isSuppressed 0 = .ok (.iload_n 0, 1) := by decide +kernel
theorem d_PR_isSuppressed_1 : decode b_PR_isSuppressed 1 = .ok (.bipush 10, 2) := by decide +kernel
theorem d_PR_isSuppressed_3 : decode b_PR_isSuppressed 3 = .ok (.if_icmp .eq 13, 3) := by decide +kernel
theorem d_PR_isSuppressed_6 : decode b_PR_isSuppressed 6 = .ok (.iload_n 0, 1) := by decide +kernel
theorem d_PR_isSuppressed_7 : decode b_PR_isSuppressed 7 = .ok (.ifCond .eq 9, 3) := by decide +kernel
theorem d_PR_isSuppressed_10 : decode b_PR_isSuppressed 10 = .ok (.iload_n 0, 1) := by decide +kernel
theorem d_PR_isSuppressed_11 : decode b_PR_isSuppressed 11 = .ok (.bipush 27, 2) := by decide +kernel
theorem d_PR_isSuppressed_13 : decode b_PR_isSuppressed 13 = .ok (.if_icmp .ne 7, 3) := by decide +kernel
theorem d_PR_isSuppressed_16 : decode b_PR_isSuppressed 16 = .ok (.iconst 1, 1) := by decide +kernel
theorem d_PR_isSuppressed_17 : decode b_PR_isSuppressed 17 = .ok (.goto 4, 3) := by decide +kernel
theorem d_PR_isSuppressed_20 : decode b_PR_isSuppressed 20 = .ok (.iconst 0, 1) := by decide +kernel
theorem d_PR_isSuppressed_21 : decode b_PR_isSuppressed 21 = .ok (.ireturn, 1) := by decide +kernel
theorem d_PR_branch_0 : decode b_PR_branch 0 = .ok (.iload_n 1, 1) := by decide +kernel
theorem d_PR_branch_1 : decode b_PR_branch 1 = .ok (.bipush 8, 2) := by decide +kernel
theorem d_PR_branch_3 : decode b_PR_branch 3 = .ok (.if_icmp .ne 19, 3) := by decide +kernel
theorem d_PR_branch_6 : decode b_PR_branch 6 = .ok (.aload_n 0, 1) := by decide +kernel
theorem d_PR_branch_7 : decode b_PR_branch 7 = .ok (.getfield 9, 3) := by decide +kernel
theorem d_PR_branch_10 : decode b_PR_branch 10 = .ok (.aload_n 0, 1) := by decide +kernel
theorem d_PR_branch_11 : decode b_PR_branch 11 = .ok (.getfield 81, 3) := by decide +kernel
theorem d_PR_branch_14 : decode b_PR_branch 14 = .ok (.invokevirtual 47, 3) := by decide +kernel
theorem d_PR_branch_17 : decode b_PR_branch 17 = .ok (.ifCond .ne 5, 3) := by decide +kernel
theorem d_PR_branch_20 : decode b_PR_branch 20 = .ok (.iconst 2, 1) := by decide +kernel
theorem d_PR_branch_21 : decode b_PR_branch 21 = .ok (.ireturn, 1) := by decide +kernel
theorem d_PR_branch_22 : decode b_PR_branch 22 = .ok (.iconst 1, 1) := by decide +kernel
theorem d_PR_branch_23 : decode b_PR_branch 23 = .ok (.istore_n 2, 1) := by decide +kernel
theorem d_PR_branch_24 : decode b_PR_branch 24 = .ok (.iload_n 1, 1) := by decide +kernel
theorem d_PR_branch_25 : decode b_PR_branch 25 = .ok (.iconst 5, 1) := by decide +kernel
theorem d_PR_branch_26 : decode b_PR_branch 26 = .ok (.if_icmp .ne 15, 3) := by decide +kernel
theorem d_PR_branch_29 : decode b_PR_branch 29 = .ok (.aload_n 0, 1) := by decide +kernel
theorem d_PR_branch_30 : decode b_PR_branch 30 = .ok (.aload_n 0, 1) := by decide +kernel
theorem d_PR_branch_31 : decode b_PR_branch 31 = .ok (.invokevirtual 209, 3) := by decide +kernel
theorem d_PR_branch_34 : decode b_PR_branch 34 = .ok (.invokevirtual 212, 3) := by decide +kernel
theorem d_PR_branch_37 : decode b_PR_branch 37 = .ok (.istore_n 2, 1) := by decide +kernel
theorem d_PR_branch_38 : decode b_PR_branch 38 = .ok (.goto 43, 3) := by decide +kernel
theorem d_PR_branch_41 : decode b_PR_branch 41 = .ok (.iload_n 1, 1) := by decide +kernel
theorem d_PR_branch_42 : decode b_PR_branch 42 = .ok (.bipush 8, 2) := by decide +kernel
theorem d_PR_branch_44 : decode b_PR_branch 44 = .ok (.if_icmp .ne 37, 3) := by decide +kernel
theorem d_PR_branch_47 : decode b_PR_branch 47 = .ok (.aload_n 0, 1) := by decide +kernel
theorem d_PR_branch_48 : decode b_PR_branch 48 = .ok (.getfield 9, 3) := by decide +kernel
theorem d_PR_branch_51 : decode b_PR_branch 51 = .ok (.aload_n 0, 1) := by decide +kernel
theorem d_PR_branch_52 : decode b_PR_branch 52 = .ok (.getfield 81, 3) := by decide +kernel
theorem d_PR_branch_55 : decode b_PR_branch 55 = .ok (.invokevirtual 56, 3) := by decide +kernel
theorem d_PR_branch_58 : decode b_PR_branch 58 = .ok (.aload_n 0, 1) := by decide +kernel
theorem d_PR_branch_59 : decode b_PR_branch 59 = .ok (.invokevirtual 209, 3) := by decide +kernel
theorem d_PR_branch_62 : decode b_PR_branch 62 = .ok (.if_icmp .ne 7, 3) := by decide +kernel
theorem d_PR_branch_65 : decode b_PR_branch 65 = .ok (.iconst 1, 1) := by decide +kernel
theorem d_PR_branch_66 : decode b_PR_branch 66 = .ok (.goto 4, 3) := by decide +kernel
theorem d_PR_branch_69 : decode b_PR_branch 69 = .ok (.iconst 0, 1) := by decide +kernel
theorem d_PR_branch_70 : decode b_PR_branch 70 = .ok (.istore_n 2, 1) := by decide +kernel
theorem d_PR_branch_71 : decode b_PR_branch 71 = .ok (.aload_n 0, 1) := by decide +kernel
theorem d_PR_branch_72 : decode b_PR_branch 72 = .ok (.dup, 1) := by decide +kernel
theorem d_PR_branch_73 : decode b_PR_branch 73 = .ok (.getfield 81, 3) := by decide +kernel
theorem d_PR_branch_76 : decode b_PR_branch 76 = .ok (.iconst 1, 1) := by decide +kernel
theorem d_PR_branch_77 : decode b_PR_branch 77 = .ok (.isub, 1) := by decide +kernel
theorem d_PR_branch_78 : decode b_PR_branch 78 = .ok (.putfield 81, 3) := by decide +kernel
theorem d_PR_branch_81 : decode b_PR_branch 81 = .ok (.iload_n 2, 1) := by decide +kernel
theorem d_PR_branch_82 : decode b_PR_branch 82 = .ok (.ifCond .eq 7, 3) := by decide +kernel
theorem d_PR_branch_85 : decode b_PR_branch 85 = .ok (.aload_n 0, 1) := by decide +kernel
theorem d_PR_branch_86 : decode b_PR_branch 86 = .ok (.invokevirtual 203, 3) := by decide +kernel
theorem d_PR_branch_89 : decode b_PR_branch 89 = .ok (.iconst 0, 1) := by decide +kernel
theorem d_PR_branch_90 : decode b_PR_branch 90 = .ok (.ireturn, 1) := by decide +kernel
theorem d_PR_isIndicated_0 : decode b_PR_isIndicated 0 = .ok (.iload_n 1, 1) := by decide +kernel
theorem d_PR_isIndicated_1 : decode b_PR_isIndicated 1 = .ok (.lookupswitch 131 #[(0, 67), (17, 69), (18, 82), (19, 95), (20, 108), (25, 121), (49, 126)], 67) := by decide +kernel
theorem d_PR_isIndicated_68 : decode b_PR_isIndicated 68 = .ok (.iconst 1, 1) := by decide +kernel
theorem d_PR_isIndicated_69 : decode b_PR_isIndicated 69 = .ok (.ireturn, 1) := by decide +kernel
theorem d_PR_isIndicated_70 : decode b_PR_isIndicated 70 = .ok (.aload_n 0, 1) := by decide +kernel
theorem d_PR_isIndicated_71 : decode b_PR_isIndicated 71 = .ok (.getfield 187, 3) := by decide +kernel
theorem d_PR_isIndicated_74 : decode b_PR_isIndicated 74 = .ok (.ifCond .eq 7, 3) := by decide +kernel
theorem d_PR_isIndicated_77 : decode b_PR_isIndicated 77 = .ok (.iconst 1, 1) := by decide +kernel
theorem d_PR_isIndicated_78 : decode b_PR_isIndicated 78 = .ok (.goto 4, 3) := by decide +kernel
theorem d_PR_isIndicated_81 : decode b_PR_isIndicated 81 = .ok (.iconst 0, 1) := by decide +kernel
theorem d_PR_isIndicated_82 : decode b_PR_isIndicated 82 = .ok (.ireturn, 1) := by decide +kernel
theorem d_PR_isIndicated_83 : decode b_PR_isIndicated 83 = .ok (.aload_n 0, 1) := by decide +kernel
theorem d_PR_isIndicated_84 : decode b_PR_isIndicated 84 = .ok (.getfield 187, 3) := by decide +kernel
theorem d_PR_isIndicated_87 : decode b_PR_isIndicated 87 = .ok (.ifCond .ne 7, 3) := by decide +kernel
theorem d_PR_isIndicated_90 : decode b_PR_isIndicated 90 = .ok (.iconst 1, 1) := by decide +kernel
theorem d_PR_isIndicated_91 : decode b_PR_isIndicated 91 = .ok (.goto 4, 3) := by decide +kernel
theorem d_PR_isIndicated_94 : decode b_PR_isIndicated 94 = .ok (.iconst 0, 1) := by decide +kernel
theorem d_PR_isIndicated_95 : decode b_PR_isIndicated 95 = .ok (.ireturn, 1) := by decide +kernel
theorem d_PR_isIndicated_96 : decode b_PR_isIndicated 96 = .ok (.aload_n 0, 1) := by decide +kernel
theorem d_PR_isIndicated_97 : decode b_PR_isIndicated 97 = .ok (.getfield 187, 3) := by decide +kernel
theorem d_PR_isIndicated_100 : decode b_PR_isIndicated 100 = .ok (.ifCond .ge 7, 3) := by decide +kernel
theorem d_PR_isIndicated_103 : decode b_PR_isIndicated 103 = .ok (.iconst 1, 1) := by decide +kernel
theorem d_PR_isIndicated_104 : decode b_PR_isIndicated 104 = .ok (.goto 4, 3) := by decide +kernel
theorem d_PR_isIndicated_107 : decode b_PR_isIndicated 107 = .ok (.iconst 0, 1) := by decide +kernel
theorem d_PR_isIndicated_108 : decode b_PR_isIndicated 108 = .ok (.ireturn, 1) := by decide +kernel
theorem d_PR_isIndicated_109 : decode b_PR_isIndicated 109 = .ok (.aload_n 0, 1) := by decide +kernel
theorem d_PR_isIndicated_110 : decode b_PR_isIndicated 110 = .ok (.getfield 187, 3) := by decide +kernel
theorem d_PR_isIndicated_113 : decode b_PR_isIndicated 113 = .ok (.ifCond .le 7, 3) := by decide +kernel
theorem d_PR_isIndicated_116 : decode b_PR_isIndicated 116 = .ok (.iconst 1, 1) := by decide +kernel
theorem d_PR_isIndicated_117 : decode b_PR_isIndicated 117 = .ok (.goto 4, 3) := by decide +kernel
theorem d_PR_isIndicated_120 : decode b_PR_isIndicated 120 = .ok (.iconst 0, 1) := by decide +kernel
theorem d_PR_isIndicated_121 : decode b_PR_isIndicated 121 = .ok (.ireturn, 1) := by decide +kernel
theorem d_PR_isIndicated_122 : decode b_PR_isIndicated 122 = .ok (.aload_n 0, 1) := by decide +kernel
theorem d_PR_isIndicated_123 : decode b_PR_isIndicated 123 = .ok (.invokevirtual 215, 3) := by decide +kernel
theorem d_PR_isIndicated_126 : decode b_PR_isIndicated 126 = .ok (.ireturn, 1) := by decide +kernel
theorem d_PR_isIndicated_127 : decode b_PR_isIndicated 127 = .ok (.aload_n 0, 1) := by decide +kernel
theorem d_PR_isIndicated_128 : decode b_PR_isIndicated 128 = .ok (.getfield 219, 3) := by decide +kernel
theorem d_PR_isIndicated_131 : decode b_PR_isIndicated 131 = .ok (.ireturn, 1) := by decide +kernel
theorem d_PR_isIndicated_132 : decode b_PR_isIndicated 132 = .ok (.iconst 0, 1) := by decide +kernel
theorem d_PR_isIndicated_133 : decode b_PR_isIndicated 133 = .ok (.ireturn, 1) := by decide +kernel
theorem d_PR_takeOverflow_0 : decode b_PR_takeOverflow 0 = .ok (.aload_n 0, 1) := by decide +kernel
theorem d_PR_takeOverflow_1 : decode b_PR_takeOverflow 1 = .ok (.getfield 161, 3) := by decide +kernel
theorem d_PR_takeOverflow_4 : decode b_PR_takeOverflow 4 = .ok (.istore_n 1, 1) := by decide +kernel
theorem d_PR_takeOverflow_5 : decode b_PR_takeOverflow 5 = .ok (.aload_n 0, 1) := by decide +kernel
theorem d_PR_takeOverflow_6 : decode b_PR_takeOverflow 6 = .ok (.iconst 0, 1) := by decide +kernel
theorem d_PR_takeOverflow_7 : decode b_PR_takeOverflow 7 = .ok (.putfield 161, 3) := by decide +kernel
theorem d_PR_takeOverflow_10 : decode b_PR_takeOverflow 10 = .ok (.iload_n 1, 1) := by decide +kernel
theorem d_PR_takeOverflow_11 : decode b_PR_takeOverflow 11 = .ok (.ireturn, 1) := by decide +kernel
theorem d_PR_branchByPosition_0 : decode b_PR_branchByPosition 0 = .ok (.aload_n 0, 1) := by decide +kernel
theorem d_PR_branchByPosition_1 : decode b_PR_branchByPosition 1 = .ok (.getfield 9, 3) := by decide +kernel
theorem d_PR_branchByPosition_4 : decode b_PR_branchByPosition 4 = .ok (.aload_n 0, 1) := by decide +kernel
theorem d_PR_branchByPosition_5 : decode b_PR_branchByPosition 5 = .ok (.getfield 81, 3) := by decide +kernel
theorem d_PR_branchByPosition_8 : decode b_PR_branchByPosition 8 = .ok (.invokevirtual 47, 3) := by decide +kernel
theorem d_PR_branchByPosition_11 : decode b_PR_branchByPosition 11 = .ok (.ifCond .ne 5, 3) := by decide +kernel
theorem d_PR_branchByPosition_14 : decode b_PR_branchByPosition 14 = .ok (.iconst 2, 1) := by decide +kernel
theorem d_PR_branchByPosition_15 : decode b_PR_branchByPosition 15 = .ok (.ireturn, 1) := by decide +kernel
theorem d_PR_branchByPosition_16 : decode b_PR_branchByPosition 16 = .ok (.aload_n 0, 1) := by decide +kernel
theorem d_PR_branchByPosition_17 : decode b_PR_branchByPosition 17 = .ok (.aload_n 0, 1) := by decide +kernel
theorem d_PR_branchByPosition_18 : decode b_PR_branchByPosition 18 = .ok (.getfield 81, 3) := by decide +kernel
theorem d_PR_branchByPosition_21 : decode b_PR_branchByPosition 21 = .ok (.aload_n 0, 1) := by decide +kernel
theorem d_PR_branchByPosition_22 : decode b_PR_branchByPosition 22 = .ok (.invokevirtual 209, 3) := by decide +kernel
theorem d_PR_branchByPosition_25 : decode b_PR_branchByPosition 25 = .ok (.invokevirtual 222, 3) := by decide +kernel
theorem d_PR_branchByPosition_28 : decode b_PR_branchByPosition 28 = .ok (.istore_n 1, 1) := by decide +kernel
theorem d_PR_branchByPosition_29 : decode b_PR_branchByPosition 29 = .ok (.aload_n 0, 1) := by decide +kernel
theorem d_PR_branchByPosition_30 : decode b_PR_branchByPosition 30 = .ok (.dup, 1) := by decide +kernel
theorem d_PR_branchByPosition_31 : decode b_PR_branchByPosition 31 = .ok (.getfield 81, 3) := by decide +kernel
theorem d_PR_branchByPosition_34 : decode b_PR_branchByPosition 34 = .ok (.iconst 1, 1) := by decide +kernel
theorem d_PR_branchByPosition_35 : decode b_PR_branchByPosition 35 = .ok (.isub, 1) := by decide +kernel
theorem d_PR_branchByPosition_36 : decode b_PR_branchByPosition 36 = .ok (.putfield 81, 3) := by decide +kernel
theorem d_PR_branchByPosition_39 : decode b_PR_branchByPosition 39 = .ok (.iload_n 1, 1) := by decide +kernel
theorem d_PR_branchByPosition_40 : decode b_PR_branchByPosition 40 = .ok (.ifCond .eq 7, 3) := by decide +kernel
theorem d_PR_branchByPosition_43 : decode b_PR_branchByPosition 43 = .ok (.aload_n 0, 1) := by decide +kernel
theorem d_PR_branchByPosition_44 : decode b_PR_branchByPosition 44 = .ok (.invokevirtual 203, 3) := by decide +kernel
theorem d_PR_branchByPosition_47 : decode b_PR_branchByPosition 47 = .ok (.iconst 0, 1) := by decide +kernel
theorem d_PR_branchByPosition_48 : decode b_PR_branchByPosition 48 = .ok (.ireturn, 1) := by decide +kernel
theorem d_PR_isAsAsked_0 : decode b_PR_isAsAsked 0 = .ok (.aload_n 0, 1) := by decide +kernel
theorem d_PR_isAsAsked_1 : decode b_PR_isAsAsked 1 = .ok (.getfield 9, 3) := by decide +kernel
theorem d_PR_isAsAsked_4 : decode b_PR_isAsAsked 4 = .ok (.iload_n 1, 1) := by decide +kernel
theorem d_PR_isAsAsked_5 : decode b_PR_isAsAsked 5 = .ok (.invokevirtual 225, 3) := by decide +kernel
theorem d_PR_isAsAsked_8 : decode b_PR_isAsAsked 8 = .ok (.iload_n 2, 1) := by decide +kernel
theorem d_PR_isAsAsked_9 : decode b_PR_isAsAsked 9 = .ok (.bipush 48, 2) := by decide +kernel
theorem d_PR_isAsAsked_11 : decode b_PR_isAsAsked 11 = .ok (.iand, 1) := by decide +kernel
theorem d_PR_isAsAsked_12 : decode b_PR_isAsAsked 12 = .ok (.if_icmp .ne 7, 3) := by decide +kernel
theorem d_PR_isAsAsked_15 : decode b_PR_isAsAsked 15 = .ok (.iconst 1, 1) := by decide +kernel
theorem d_PR_isAsAsked_16 : decode b_PR_isAsAsked 16 = .ok (.goto 4, 3) := by decide +kernel
theorem d_PR_isAsAsked_19 : decode b_PR_isAsAsked 19 = .ok (.iconst 0, 1) := by decide +kernel
theorem d_PR_isAsAsked_20 : decode b_PR_isAsAsked 20 = .ok (.istore_n 3, 1) := by decide +kernel
theorem d_PR_isAsAsked_21 : decode b_PR_isAsAsked 21 = .ok (.iload_n 2, 1) := by decide +kernel
theorem d_PR_isAsAsked_22 : decode b_PR_isAsAsked 22 = .ok (.lookupswitch 114 #[(1, 82), (2, 91), (3, 93), (18, 91), (19, 93), (34, 91), (35, 93), (50, 91), (51, 93)], 82) := by decide +kernel
theorem d_PR_isAsAsked_104 : decode b_PR_isAsAsked 104 = .ok (.aload_n 0, 1) := by decide +kernel
theorem d_PR_isAsAsked_105 : decode b_PR_isAsAsked 105 = .ok (.getfield 9, 3) := by decide +kernel
theorem d_PR_isAsAsked_108 : decode b_PR_isAsAsked 108 = .ok (.iload_n 1, 1) := by decide +kernel
theorem d_PR_isAsAsked_109 : decode b_PR_isAsAsked 109 = .ok (.invokevirtual 53, 3) := by decide +kernel
theorem d_PR_isAsAsked_112 : decode b_PR_isAsAsked 112 = .ok (.ireturn, 1) := by decide +kernel
theorem d_PR_isAsAsked_113 : decode b_PR_isAsAsked 113 = .ok (.iload_n 3, 1) := by decide +kernel
theorem d_PR_isAsAsked_114 : decode b_PR_isAsAsked 114 = .ok (.ireturn, 1) := by decide +kernel
theorem d_PR_isAsAsked_115 : decode b_PR_isAsAsked 115 = .ok (.aload_n 0, 1) := by decide +kernel
theorem d_PR_isAsAsked_116 : decode b_PR_isAsAsked 116 = .ok (.getfield 9, 3) := by decide +kernel
theorem d_PR_isAsAsked_119 : decode b_PR_isAsAsked 119 = .ok (.iload_n 1, 1) := by decide +kernel
theorem d_PR_isAsAsked_120 : decode b_PR_isAsAsked 120 = .ok (.invokevirtual 53, 3) := by decide +kernel
theorem d_PR_isAsAsked_123 : decode b_PR_isAsAsked 123 = .ok (.ifCond .ne 7, 3) := by decide +kernel
theorem d_PR_isAsAsked_126 : decode b_PR_isAsAsked 126 = .ok (.iload_n 3, 1) := by decide +kernel
theorem d_PR_isAsAsked_127 : decode b_PR_isAsAsked 127 = .ok (.ifCond .eq 7, 3) := by decide +kernel
theorem d_PR_isAsAsked_130 : decode b_PR_isAsAsked 130 = .ok (.iconst 1, 1) := by decide +kernel
theorem d_PR_isAsAsked_131 : decode b_PR_isAsAsked 131 = .ok (.goto 4, 3) := by decide +kernel
theorem d_PR_isAsAsked_134 : decode b_PR_isAsAsked 134 = .ok (.iconst 0, 1) := by decide +kernel
theorem d_PR_isAsAsked_135 : decode b_PR_isAsAsked 135 = .ok (.ireturn, 1) := by decide +kernel
theorem d_PR_isAsAsked_136 : decode b_PR_isAsAsked 136 = .ok (.iconst 0, 1) := by decide +kernel
theorem d_PR_isAsAsked_137 : decode b_PR_isAsAsked 137 = .ok (.ireturn, 1) := by decide +kernel
theorem d_PR_readCard_0 : decode b_PR_readCard 0 = .ok (.aload_n 0, 1) := by decide +kernel
theorem d_PR_readCard_1 : decode b_PR_readCard 1 = .ok (.invokevirtual 228, 3) := by decide +kernel
theorem d_PR_readCard_4 : decode b_PR_readCard 4 = .ok (.ifCond .ne 5, 3) := by decide +kernel
theorem d_PR_readCard_7 : decode b_PR_readCard 7 = .ok (.iconst 4, 1) := by decide +kernel
theorem d_PR_readCard_8 : decode b_PR_readCard 8 = .ok (.ireturn, 1) := by decide +kernel
theorem d_PR_readCard_9 : decode b_PR_readCard 9 = .ok (.iconst 1, 1) := by decide +kernel
theorem d_PR_readCard_10 : decode b_PR_readCard 10 = .ok (.istore_n 2, 1) := by decide +kernel
theorem d_PR_readCard_11 : decode b_PR_readCard 11 = .ok (.iload_n 2, 1) := by decide +kernel
theorem d_PR_readCard_12 : decode b_PR_readCard 12 = .ok (.bipush 80, 2) := by decide +kernel
theorem d_PR_readCard_14 : decode b_PR_readCard 14 = .ok (.if_icmp .gt 33, 3) := by decide +kernel
theorem d_PR_readCard_17 : decode b_PR_readCard 17 = .ok (.aload_n 0, 1) := by decide +kernel
theorem d_PR_readCard_18 : decode b_PR_readCard 18 = .ok (.getfield 9, 3) := by decide +kernel
theorem d_PR_readCard_21 : decode b_PR_readCard 21 = .ok (.iconst 1, 1) := by decide +kernel
theorem d_PR_readCard_22 : decode b_PR_readCard 22 = .ok (.iload_n 2, 1) := by decide +kernel
theorem d_PR_readCard_23 : decode b_PR_readCard 23 = .ok (.iadd, 1) := by decide +kernel
theorem d_PR_readCard_24 : decode b_PR_readCard 24 = .ok (.iconst 1, 1) := by decide +kernel
theorem d_PR_readCard_25 : decode b_PR_readCard 25 = .ok (.isub, 1) := by decide +kernel
theorem d_PR_readCard_26 : decode b_PR_readCard 26 = .ok (.aload_n 0, 1) := by decide +kernel
theorem d_PR_readCard_27 : decode b_PR_readCard 27 = .ok (.getfield 15, 3) := by decide +kernel
theorem d_PR_readCard_30 : decode b_PR_readCard 30 = .ok (.aload_n 0, 1) := by decide +kernel
theorem d_PR_readCard_31 : decode b_PR_readCard 31 = .ok (.getfield 40, 3) := by decide +kernel
theorem d_PR_readCard_34 : decode b_PR_readCard 34 = .ok (.iload_n 2, 1) := by decide +kernel
theorem d_PR_readCard_35 : decode b_PR_readCard 35 = .ok (.invokevirtual 231, 3) := by decide +kernel
theorem d_PR_readCard_38 : decode b_PR_readCard 38 = .ok (.invokevirtual 175, 3) := by decide +kernel
theorem d_PR_readCard_41 : decode b_PR_readCard 41 = .ok (.iinc 2 1, 3) := by decide +kernel
theorem d_PR_readCard_44 : decode b_PR_readCard 44 = .ok (.goto (-33), 3) := by decide +kernel
theorem d_PR_readCard_47 : decode b_PR_readCard 47 = .ok (.aload_n 0, 1) := by decide +kernel
theorem d_PR_readCard_48 : decode b_PR_readCard 48 = .ok (.dup, 1) := by decide +kernel
theorem d_PR_readCard_49 : decode b_PR_readCard 49 = .ok (.getfield 40, 3) := by decide +kernel
theorem d_PR_readCard_52 : decode b_PR_readCard 52 = .ok (.iconst 1, 1) := by decide +kernel
theorem d_PR_readCard_53 : decode b_PR_readCard 53 = .ok (.iadd, 1) := by decide +kernel
theorem d_PR_readCard_54 : decode b_PR_readCard 54 = .ok (.putfield 40, 3) := by decide +kernel
theorem d_PR_readCard_57 : decode b_PR_readCard 57 = .ok (.aload_n 0, 1) := by decide +kernel
theorem d_PR_readCard_58 : decode b_PR_readCard 58 = .ok (.aload_n 0, 1) := by decide +kernel
theorem d_PR_readCard_59 : decode b_PR_readCard 59 = .ok (.invokevirtual 228, 3) := by decide +kernel
theorem d_PR_readCard_62 : decode b_PR_readCard 62 = .ok (.ifCond .ne 7, 3) := by decide +kernel
theorem d_PR_readCard_65 : decode b_PR_readCard 65 = .ok (.iconst 1, 1) := by decide +kernel
theorem d_PR_readCard_66 : decode b_PR_readCard 66 = .ok (.goto 4, 3) := by decide +kernel
theorem d_PR_readCard_69 : decode b_PR_readCard 69 = .ok (.iconst 0, 1) := by decide +kernel
theorem d_PR_readCard_70 : decode b_PR_readCard 70 = .ok (.putfield 219, 3) := by decide +kernel
theorem d_PR_readCard_73 : decode b_PR_readCard 73 = .ok (.aload_n 0, 1) := by decide +kernel
theorem d_PR_readCard_74 : decode b_PR_readCard 74 = .ok (.bipush 81, 2) := by decide +kernel
theorem d_PR_readCard_76 : decode b_PR_readCard 76 = .ok (.iload_n 1, 1) := by decide +kernel
theorem d_PR_readCard_77 : decode b_PR_readCard 77 = .ok (.invokevirtual 233, 3) := by decide +kernel
theorem d_PR_readCard_80 : decode b_PR_readCard 80 = .ok (.iconst 0, 1) := by decide +kernel
theorem d_PR_readCard_81 : decode b_PR_readCard 81 = .ok (.ireturn, 1) := by decide +kernel
theorem d_PR_fillRow_0 : decode b_PR_fillRow 0 = .ok (.aload_n 1, 1) := by decide +kernel
theorem d_PR_fillRow_1 : decode b_PR_fillRow 1 = .ok (.invokevirtual 236, 3) := by decide +kernel
theorem d_PR_fillRow_4 : decode b_PR_fillRow 4 = .ok (.ifCond .eq 5, 3) := by decide +kernel
theorem d_PR_fillRow_7 : decode b_PR_fillRow 7 = .ok (.iconst 5, 1) := by decide +kernel
theorem d_PR_fillRow_8 : decode b_PR_fillRow 8 = .ok (.ireturn, 1) := by decide +kernel
theorem d_PR_fillRow_9 : decode b_PR_fillRow 9 = .ok (.aload_n 1, 1) := by decide +kernel
theorem d_PR_fillRow_10 : decode b_PR_fillRow 10 = .ok (.aload_n 0, 1) := by decide +kernel
theorem d_PR_fillRow_11 : decode b_PR_fillRow 11 = .ok (.getfield 9, 3) := by decide +kernel
theorem d_PR_fillRow_14 : decode b_PR_fillRow 14 = .ok (.iload_n 2, 1) := by decide +kernel
theorem d_PR_fillRow_15 : decode b_PR_fillRow 15 = .ok (.invokevirtual 239, 3) := by decide +kernel
theorem d_PR_fillRow_18 : decode b_PR_fillRow 18 = .ok (.aload_n 0, 1) := by decide +kernel
theorem d_PR_fillRow_19 : decode b_PR_fillRow 19 = .ok (.iload_n 2, 1) := by decide +kernel
theorem d_PR_fillRow_20 : decode b_PR_fillRow 20 = .ok (.iload_n 3, 1) := by decide +kernel
theorem d_PR_fillRow_21 : decode b_PR_fillRow 21 = .ok (.iadd, 1) := by decide +kernel
theorem d_PR_fillRow_22 : decode b_PR_fillRow 22 = .ok (.iload 4, 2) := by decide +kernel
theorem d_PR_fillRow_24 : decode b_PR_fillRow 24 = .ok (.invokevirtual 233, 3) := by decide +kernel
theorem d_PR_fillRow_27 : decode b_PR_fillRow 27 = .ok (.iconst 0, 1) := by decide +kernel
theorem d_PR_fillRow_28 : decode b_PR_fillRow 28 = .ok (.ireturn, 1) := by decide +kernel
theorem d_PR_endTransfer_0 : decode b_PR_endTransfer 0 = .ok (.aload_n 0, 1) := by decide +kernel
theorem d_PR_endTransfer_1 : decode b_PR_endTransfer 1 = .ok (.iload_n 1, 1) := by decide +kernel
theorem d_PR_endTransfer_2 : decode b_PR_endTransfer 2 = .ok (.putfield 81, 3) := by decide +kernel
theorem d_PR_endTransfer_5 : decode b_PR_endTransfer 5 = .ok (.iload_n 2, 1) := by decide +kernel
theorem d_PR_endTransfer_6 : decode b_PR_endTransfer 6 = .ok (.ifCond .eq 7, 3) := by decide +kernel
theorem d_PR_endTransfer_9 : decode b_PR_endTransfer 9 = .ok (.aload_n 0, 1) := by decide +kernel
theorem d_PR_endTransfer_10 : decode b_PR_endTransfer 10 = .ok (.invokevirtual 203, 3) := by decide +kernel
theorem d_PR_endTransfer_13 : decode b_PR_endTransfer 13 = .ok (.return_, 1) := by decide +kernel
theorem d_PR_storeAddress_0 : decode b_PR_storeAddress 0 = .ok (.aload_n 0, 1) := by decide +kernel
theorem d_PR_storeAddress_1 : decode b_PR_storeAddress 1 = .ok (.getfield 9, 3) := by decide +kernel
theorem d_PR_storeAddress_4 : decode b_PR_storeAddress 4 = .ok (.aload_n 0, 1) := by decide +kernel
theorem d_PR_storeAddress_5 : decode b_PR_storeAddress 5 = .ok (.getfield 67, 3) := by decide +kernel
theorem d_PR_storeAddress_8 : decode b_PR_storeAddress 8 = .ok (.iconst 3, 1) := by decide +kernel
theorem d_PR_storeAddress_9 : decode b_PR_storeAddress 9 = .ok (.invokevirtual 178, 3) := by decide +kernel
theorem d_PR_storeAddress_12 : decode b_PR_storeAddress 12 = .ok (.ifCond .ne 5, 3) := by decide +kernel
theorem d_PR_storeAddress_15 : decode b_PR_storeAddress 15 = .ok (.iconst 2, 1) := by decide +kernel
theorem d_PR_storeAddress_16 : decode b_PR_storeAddress 16 = .ok (.ireturn, 1) := by decide +kernel
theorem d_PR_storeAddress_17 : decode b_PR_storeAddress 17 = .ok (.aload_n 0, 1) := by decide +kernel
theorem d_PR_storeAddress_18 : decode b_PR_storeAddress 18 = .ok (.getfield 9, 3) := by decide +kernel
theorem d_PR_storeAddress_21 : decode b_PR_storeAddress 21 = .ok (.aload_n 0, 1) := by decide +kernel
theorem d_PR_storeAddress_22 : decode b_PR_storeAddress 22 = .ok (.getfield 67, 3) := by decide +kernel
theorem d_PR_storeAddress_25 : decode b_PR_storeAddress 25 = .ok (.iload_n 1, 1) := by decide +kernel
theorem d_PR_storeAddress_26 : decode b_PR_storeAddress 26 = .ok (.sipush 16000, 3) := by decide +kernel
theorem d_PR_storeAddress_29 : decode b_PR_storeAddress 29 = .ok (.invokestatic 243, 3) := by decide +kernel
theorem d_PR_storeAddress_32 : decode b_PR_storeAddress 32 = .ok (.invokevirtual 248, 3) := by decide +kernel
theorem d_PR_storeAddress_35 : decode b_PR_storeAddress 35 = .ok (.aload_n 0, 1) := by decide +kernel
theorem d_PR_storeAddress_36 : decode b_PR_storeAddress 36 = .ok (.dup, 1) := by decide +kernel
theorem d_PR_storeAddress_37 : decode b_PR_storeAddress 37 = .ok (.getfield 67, 3) := by decide +kernel
theorem d_PR_storeAddress_40 : decode b_PR_storeAddress 40 = .ok (.iconst 3, 1) := by decide +kernel
theorem d_PR_storeAddress_41 : decode b_PR_storeAddress 41 = .ok (.isub, 1) := by decide +kernel
theorem d_PR_storeAddress_42 : decode b_PR_storeAddress 42 = .ok (.putfield 67, 3) := by decide +kernel
theorem d_PR_storeAddress_45 : decode b_PR_storeAddress 45 = .ok (.iconst 0, 1) := by decide +kernel
theorem d_PR_storeAddress_46 : decode b_PR_storeAddress 46 = .ok (.ireturn, 1) := by decide +kernel
theorem d_PR_halt_0 : decode b_PR_halt 0 = .ok (.iload_n 1, 1) := by decide +kernel
theorem d_PR_halt_1 : decode b_PR_halt 1 = .ok (.ifCond .eq 7, 3) := by decide +kernel
theorem d_PR_halt_4 : decode b_PR_halt 4 = .ok (.aload_n 0, 1) := by decide +kernel
theorem d_PR_halt_5 : decode b_PR_halt 5 = .ok (.invokevirtual 203, 3) := by decide +kernel
theorem d_PR_halt_8 : decode b_PR_halt 8 = .ok (.bipush 6, 2) := by decide +kernel
theorem d_PR_halt_10 : decode b_PR_halt 10 = .ok (.ireturn, 1) := by decide +kernel
