theorem dX9_mix_275 : decode cX9_mix 275 = .ok (.iconst (-1), 1) := by decide +kernel
theorem dX9_mix_276 : decode cX9_mix 276 = .ok (.ixor, 1) := by decide +kernel
theorem dX9_mix_277 : decode cX9_mix 277 = .ok (.iload 8, 2) := by decide +kernel
theorem dX9_mix_279 : decode cX9_mix 279 = .ok (.iand, 1) := by decide +kernel
theorem dX9_mix_280 : decode cX9_mix 280 = .ok (.ixor, 1) := by decide +kernel
theorem dX9_mix_281 : decode cX9_mix 281 = .ok (.iadd, 1) := by decide +kernel
theorem dX9_mix_282 : decode cX9_mix 282 = .ok (.aload_n 0, 1) := by decide +kernel
theorem dX9_mix_283 : decode cX9_mix 283 = .ok (.getfield 71, 3) := by decide +kernel
theorem dX9_mix_286 : decode cX9_mix 286 = .ok (.iload 10, 2) := by decide +kernel
theorem dX9_mix_288 : decode cX9_mix 288 = .ok (.iaload, 1) := by decide +kernel
theorem dX9_mix_289 : decode cX9_mix 289 = .ok (.iadd, 1) := by decide +kernel
theorem dX9_mix_290 : decode cX9_mix 290 = .ok (.aload_n 0, 1) := by decide +kernel
theorem dX9_mix_291 : decode cX9_mix 291 = .ok (.getfield 122, 3) := by decide +kernel
theorem dX9_mix_294 : decode cX9_mix 294 = .ok (.iload 10, 2) := by decide +kernel
theorem dX9_mix_296 : decode cX9_mix 296 = .ok (.iaload, 1) := by decide +kernel
theorem dX9_mix_297 : decode cX9_mix 297 = .ok (.iadd, 1) := by decide +kernel
theorem dX9_mix_298 : decode cX9_mix 298 = .ok (.istore 11, 2) := by decide +kernel
theorem dX9_mix_300 : decode cX9_mix 300 = .ok (.iload_n 2, 1) := by decide +kernel
theorem dX9_mix_301 : decode cX9_mix 301 = .ok (.iconst 2, 1) := by decide +kernel
theorem dX9_mix_302 : decode cX9_mix 302 = .ok (.invokestatic 148, 3) := by decide +kernel
theorem dX9_mix_305 : decode cX9_mix 305 = .ok (.iload_n 2, 1) := by decide +kernel
theorem dX9_mix_306 : decode cX9_mix 306 = .ok (.bipush 13, 2) := by decide +kernel
theorem dX9_mix_308 : decode cX9_mix 308 = .ok (.invokestatic 148, 3) := by decide +kernel
theorem dX9_mix_311 : decode cX9_mix 311 = .ok (.ixor, 1) := by decide +kernel
theorem dX9_mix_312 : decode cX9_mix 312 = .ok (.iload_n 2, 1) := by decide +kernel
theorem dX9_mix_313 : decode cX9_mix 313 = .ok (.bipush 22, 2) := by decide +kernel
theorem dX9_mix_315 : decode cX9_mix 315 = .ok (.invokestatic 148, 3) := by decide +kernel
theorem dX9_mix_318 : decode cX9_mix 318 = .ok (.ixor, 1) := by decide +kernel
theorem dX9_mix_319 : decode cX9_mix 319 = .ok (.iload_n 2, 1) := by decide +kernel
theorem dX9_mix_320 : decode cX9_mix 320 = .ok (.iload_n 3, 1) := by decide +kernel
theorem dX9_mix_321 : decode cX9_mix 321 = .ok (.iand, 1) := by decide +kernel
theorem dX9_mix_322 : decode cX9_mix 322 = .ok (.iload_n 2, 1) := by decide +kernel
theorem dX9_mix_323 : decode cX9_mix 323 = .ok (.iload 4, 2) := by decide +kernel
theorem dX9_mix_325 : decode cX9_mix 325 = .ok (.iand, 1) := by decide +kernel
theorem dX9_mix_326 : decode cX9_mix 326 = .ok (.ixor, 1) := by decide +kernel
theorem dX9_mix_327 : decode cX9_mix 327 = .ok (.iload_n 3, 1) := by decide +kernel
theorem dX9_mix_328 : decode cX9_mix 328 = .ok (.iload 4, 2) := by decide +kernel
theorem dX9_mix_330 : decode cX9_mix 330 = .ok (.iand, 1) := by decide +kernel
theorem dX9_mix_331 : decode cX9_mix 331 = .ok (.ixor, 1) := by decide +kernel
theorem dX9_mix_332 : decode cX9_mix 332 = .ok (.iadd, 1) := by decide +kernel
theorem dX9_mix_333 : decode cX9_mix 333 = .ok (.istore 12, 2) := by decide +kernel
theorem dX9_mix_335 : decode cX9_mix 335 = .ok (.iload 8, 2) := by decide +kernel
theorem dX9_mix_337 : decode cX9_mix 337 = .ok (.istore 9, 2) := by decide +kernel
theorem dX9_mix_339 : decode cX9_mix 339 = .ok (.iload 7, 2) := by decide +kernel
theorem dX9_mix_341 : decode cX9_mix 341 = .ok (.istore 8, 2) := by decide +kernel
theorem dX9_mix_343 : decode cX9_mix 343 = .ok (.iload 6, 2) := by decide +kernel
theorem dX9_mix_345 : decode cX9_mix 345 = .ok (.istore 7, 2) := by decide +kernel
theorem dX9_mix_347 : decode cX9_mix 347 = .ok (.iload 5, 2) := by decide +kernel
theorem dX9_mix_349 : decode cX9_mix 349 = .ok (.iload 11, 2) := by decide +kernel
theorem dX9_mix_351 : decode cX9_mix 351 = .ok (.iadd, 1) := by decide +kernel
theorem dX9_mix_352 : decode cX9_mix 352 = .ok (.istore 6, 2) := by decide +kernel
theorem dX9_mix_354 : decode cX9_mix 354 = .ok (.iload 4, 2) := by decide +kernel
theorem dX9_mix_356 : decode cX9_mix 356 = .ok (.istore 5, 2) := by decide +kernel
theorem dX9_mix_358 : decode cX9_mix 358 = .ok (.iload_n 3, 1) := by decide +kernel
theorem dX9_mix_359 : decode cX9_mix 359 = .ok (.istore 4, 2) := by decide +kernel
theorem dX9_mix_361 : decode cX9_mix 361 = .ok (.iload_n 2, 1) := by decide +kernel
theorem dX9_mix_362 : decode cX9_mix 362 = .ok (.istore_n 3, 1) := by decide +kernel
theorem dX9_mix_363 : decode cX9_mix 363 = .ok (.iload 11, 2) := by decide +kernel
theorem dX9_mix_365 : decode cX9_mix 365 = .ok (.iload 12, 2) := by decide +kernel
theorem dX9_mix_367 : decode cX9_mix 367 = .ok (.iadd, 1) := by decide +kernel
theorem dX9_mix_368 : decode cX9_mix 368 = .ok (.istore_n 2, 1) := by decide +kernel
theorem dX9_mix_369 : decode cX9_mix 369 = .ok (.iinc 10 1, 3) := by decide +kernel
theorem dX9_mix_372 : decode cX9_mix 372 = .ok (.goto (-137), 3) := by decide +kernel
theorem dX9_mix_375 : decode cX9_mix 375 = .ok (.aload_n 0, 1) := by decide +kernel
theorem dX9_mix_376 : decode cX9_mix 376 = .ok (.getfield 125, 3) := by decide +kernel
theorem dX9_mix_379 : decode cX9_mix 379 = .ok (.iconst 0, 1) := by decide +kernel
theorem dX9_mix_380 : decode cX9_mix 380 = .ok (.dup2, 1) := by decide +kernel
theorem dX9_mix_381 : decode cX9_mix 381 = .ok (.iaload, 1) := by decide +kernel
theorem dX9_mix_382 : decode cX9_mix 382 = .ok (.iload_n 2, 1) := by decide +kernel
theorem dX9_mix_383 : decode cX9_mix 383 = .ok (.iadd, 1) := by decide +kernel
theorem dX9_mix_384 : decode cX9_mix 384 = .ok (.iastore, 1) := by decide +kernel
theorem dX9_mix_385 : decode cX9_mix 385 = .ok (.aload_n 0, 1) := by decide +kernel
theorem dX9_mix_386 : decode cX9_mix 386 = .ok (.getfield 125, 3) := by decide +kernel
theorem dX9_mix_389 : decode cX9_mix 389 = .ok (.iconst 1, 1) := by decide +kernel
theorem dX9_mix_390 : decode cX9_mix 390 = .ok (.dup2, 1) := by decide +kernel
theorem dX9_mix_391 : decode cX9_mix 391 = .ok (.iaload, 1) := by decide +kernel
theorem dX9_mix_392 : decode cX9_mix 392 = .ok (.iload_n 3, 1) := by decide +kernel
theorem dX9_mix_393 : decode cX9_mix 393 = .ok (.iadd, 1) := by decide +kernel
theorem dX9_mix_394 : decode cX9_mix 394 = .ok (.iastore, 1) := by decide +kernel
theorem dX9_mix_395 : decode cX9_mix 395 = .ok (.aload_n 0, 1) := by decide +kernel
theorem dX9_mix_396 : decode cX9_mix 396 = .ok (.getfield 125, 3) := by decide +kernel
theorem dX9_mix_399 : decode cX9_mix 399 = .ok (.iconst 2, 1) := by decide +kernel
theorem dX9_mix_400 : decode cX9_mix 400 = .ok (.dup2, 1) := by decide +kernel
theorem dX9_mix_401 : decode cX9_mix 401 = .ok (.iaload, 1) := by decide +kernel
theorem dX9_mix_402 : decode cX9_mix 402 = .ok (.iload 4, 2) := by decide +kernel
theorem dX9_mix_404 : decode cX9_mix 404 = .ok (.iadd, 1) := by decide +kernel
theorem dX9_mix_405 : decode cX9_mix 405 = .ok (.iastore, 1) := by decide +kernel
theorem dX9_mix_406 : decode cX9_mix 406 = .ok (.aload_n 0, 1) := by decide +kernel
theorem dX9_mix_407 : decode cX9_mix 407 = .ok (.getfield 125, 3) := by decide +kernel
theorem dX9_mix_410 : decode cX9_mix 410 = .ok (.iconst 3, 1) := by decide +kernel
theorem dX9_mix_411 : decode cX9_mix 411 = .ok (.dup2, 1) := by decide +kernel
theorem dX9_mix_412 : decode cX9_mix 412 = .ok (.iaload, 1) := by decide +kernel
theorem dX9_mix_413 : decode cX9_mix 413 = .ok (.iload 5, 2) := by decide +kernel
theorem dX9_mix_415 : decode cX9_mix 415 = .ok (.iadd, 1) := by decide +kernel
theorem dX9_mix_416 : decode cX9_mix 416 = .ok (.iastore, 1) := by decide +kernel
theorem dX9_mix_417 : decode cX9_mix 417 = .ok (.aload_n 0, 1) := by decide +kernel
theorem dX9_mix_418 : decode cX9_mix 418 = .ok (.getfield 125, 3) := by decide +kernel
theorem dX9_mix_421 : decode cX9_mix 421 = .ok (.iconst 4, 1) := by decide +kernel
theorem dX9_mix_422 : decode cX9_mix 422 = .ok (.dup2, 1) := by decide +kernel
theorem dX9_mix_423 : decode cX9_mix 423 = .ok (.iaload, 1) := by decide +kernel
theorem dX9_mix_424 : decode cX9_mix 424 = .ok (.iload 6, 2) := by decide +kernel
theorem dX9_mix_426 : decode cX9_mix 426 = .ok (.iadd, 1) := by decide +kernel
theorem dX9_mix_427 : decode cX9_mix 427 = .ok (.iastore, 1) := by decide +kernel
theorem dX9_mix_428 : decode cX9_mix 428 = .ok (.aload_n 0, 1) := by decide +kernel
theorem dX9_mix_429 : decode cX9_mix 429 = .ok (.getfield 125, 3) := by decide +kernel
theorem dX9_mix_432 : decode cX9_mix 432 = .ok (.iconst 5, 1) := by decide +kernel
theorem dX9_mix_433 : decode cX9_mix 433 = .ok (.dup2, 1) := by decide +kernel
theorem dX9_mix_434 : decode cX9_mix 434 = .ok (.iaload, 1) := by decide +kernel
theorem dX9_mix_435 : decode cX9_mix 435 = .ok (.iload 7, 2) := by decide +kernel
theorem dX9_mix_437 : decode cX9_mix 437 = .ok (.iadd, 1) := by decide +kernel
theorem dX9_mix_438 : decode cX9_mix 438 = .ok (.iastore, 1) := by decide +kernel
theorem dX9_mix_439 : decode cX9_mix 439 = .ok (.aload_n 0, 1) := by decide +kernel
theorem dX9_mix_440 : decode cX9_mix 440 = .ok (.getfield 125, 3) := by decide +kernel
theorem dX9_mix_443 : decode cX9_mix 443 = .ok (.bipush 6, 2) := by decide +kernel
theorem dX9_mix_445 : decode cX9_mix 445 = .ok (.dup2, 1) := by decide +kernel
theorem dX9_mix_446 : decode cX9_mix 446 = .ok (.iaload, 1) := by decide +kernel
theorem dX9_mix_447 : decode cX9_mix 447 = .ok (.iload 8, 2) := by decide +kernel
theorem dX9_mix_449 : decode cX9_mix 449 = .ok (.iadd, 1) := by decide +kernel
theorem dX9_mix_450 : decode cX9_mix 450 = .ok (.iastore, 1) := by decide +kernel
theorem dX9_mix_451 : decode cX9_mix 451 = .ok (.aload_n 0, 1) := by decide +kernel
theorem dX9_mix_452 : decode cX9_mix 452 = .ok (.getfield 125, 3) := by decide +kernel
theorem dX9_mix_455 : decode cX9_mix 455 = .ok (.bipush 7, 2) := by decide +kernel
theorem dX9_mix_457 : decode cX9_mix 457 = .ok (.dup2, 1) := by decide +kernel
theorem dX9_mix_458 : decode cX9_mix 458 = .ok (.iaload, 1) := by decide +kernel
theorem dX9_mix_459 : decode cX9_mix 459 = .ok (.iload 9, 2) := by decide +kernel
theorem dX9_mix_461 : decode cX9_mix 461 = .ok (.iadd, 1) := by decide +kernel
theorem dX9_mix_462 : decode cX9_mix 462 = .ok (.iastore, 1) := by decide +kernel
theorem dX9_mix_463 : decode cX9_mix 463 = .ok (.return_, 1) := by decide +kernel
set_option maxRecDepth 20000 in
theorem ggX9_hash_X9_add : GoodIn wsX9_hash wsX9_add := goodIn_r _ [9, 10, 1, 20, 21, 22, 23, 24, 25, 26, 27, 28, 29, 30, 31, 32, 33, 34, 35, 36, 37, 38, 39, 40, 41, 42] (by decide +kernel) (by decide +kernel)
set_option maxRecDepth 20000 in
theorem gX9_hash_X9_add : GoodIn wsX9_hash (wsV RX9 152 RX9 yX9_add wsX9_add) := goodIn_app (goodIn_of _ (by decide +kernel)) ggX9_hash_X9_add
set_option maxRecDepth 20000 in
theorem ggX9_hash_X9_mix : GoodIn wsX9_hash wsX9_mix := goodIn_r _ [14, 15, 10, 2, 16, 17, 18, 8, 19, 20, 21, 22, 23, 24, 25, 26, 27, 28, 29, 30, 31, 32, 33, 34, 35, 36, 37, 38, 39, 40, 41, 42] (by decide +kernel) (by decide +kernel)
set_option maxRecDepth 20000 in
theorem gX9_hash_X9_mix : GoodIn wsX9_hash (wsV RX9 155 RX9 yX9_mix wsX9_mix) := goodIn_app (goodIn_of _ (by decide +kernel)) ggX9_hash_X9_mix
theorem dX9_hash_0 : decode cX9_hash 0 = .ok (.bipush 8, 2) := by decide +kernel
theorem dX9_hash_2 : decode cX9_hash 2 = .ok (.aload_n 0, 1) := by decide +kernel
theorem dX9_hash_3 : decode cX9_hash 3 = .ok (.getfield 145, 3) := by decide +kernel
theorem dX9_hash_6 : decode cX9_hash 6 = .ok (.imul, 1) := by decide +kernel
theorem dX9_hash_7 : decode cX9_hash 7 = .ok (.istore_n 1, 1) := by decide +kernel
theorem dX9_hash_8 : decode cX9_hash 8 = .ok (.aload_n 0, 1) := by decide +kernel
theorem dX9_hash_9 : decode cX9_hash 9 = .ok (.sipush 128, 3) := by decide +kernel
theorem dX9_hash_12 : decode cX9_hash 12 = .ok (.invokevirtual 152, 3) := by decide +kernel
theorem dX9_hash_15 : decode cX9_hash 15 = .ok (.aload_n 0, 1) := by decide +kernel
theorem dX9_hash_16 : decode cX9_hash 16 = .ok (.getfield 145, 3) := by decide +kernel
theorem dX9_hash_19 : decode cX9_hash 19 = .ok (.bipush 64, 2) := by decide +kernel
theorem dX9_hash_21 : decode cX9_hash 21 = .ok (.irem, 1) := by decide +kernel
theorem dX9_hash_22 : decode cX9_hash 22 = .ok (.bipush 56, 2) := by decide +kernel
theorem dX9_hash_24 : decode cX9_hash 24 = .ok (.if_icmp .eq 11, 3) := by decide +kernel
theorem dX9_hash_27 : decode cX9_hash 27 = .ok (.aload_n 0, 1) := by decide +kernel
theorem dX9_hash_28 : decode cX9_hash 28 = .ok (.iconst 0, 1) := by decide +kernel
theorem dX9_hash_29 : decode cX9_hash 29 = .ok (.invokevirtual 152, 3) := by decide +kernel
theorem dX9_hash_32 : decode cX9_hash 32 = .ok (.goto (-17), 3) := by decide +kernel
theorem dX9_hash_35 : decode cX9_hash 35 = .ok (.iconst 0, 1) := by decide +kernel
theorem dX9_hash_36 : decode cX9_hash 36 = .ok (.istore_n 2, 1) := by decide +kernel
theorem dX9_hash_37 : decode cX9_hash 37 = .ok (.iload_n 2, 1) := by decide +kernel
theorem dX9_hash_38 : decode cX9_hash 38 = .ok (.iconst 4, 1) := by decide +kernel
theorem dX9_hash_39 : decode cX9_hash 39 = .ok (.if_icmp .ge 14, 3) := by decide +kernel
theorem dX9_hash_42 : decode cX9_hash 42 = .ok (.aload_n 0, 1) := by decide +kernel
theorem dX9_hash_43 : decode cX9_hash 43 = .ok (.iconst 0, 1) := by decide +kernel
theorem dX9_hash_44 : decode cX9_hash 44 = .ok (.invokevirtual 152, 3) := by decide +kernel
theorem dX9_hash_47 : decode cX9_hash 47 = .ok (.iinc 2 1, 3) := by decide +kernel
theorem dX9_hash_50 : decode cX9_hash 50 = .ok (.goto (-13), 3) := by decide +kernel
theorem dX9_hash_53 : decode cX9_hash 53 = .ok (.aload_n 0, 1) := by decide +kernel
theorem dX9_hash_54 : decode cX9_hash 54 = .ok (.iload_n 1, 1) := by decide +kernel
theorem dX9_hash_55 : decode cX9_hash 55 = .ok (.bipush 24, 2) := by decide +kernel
theorem dX9_hash_57 : decode cX9_hash 57 = .ok (.ishr, 1) := by decide +kernel
theorem dX9_hash_58 : decode cX9_hash 58 = .ok (.invokevirtual 152, 3) := by decide +kernel
theorem dX9_hash_61 : decode cX9_hash 61 = .ok (.aload_n 0, 1) := by decide +kernel
theorem dX9_hash_62 : decode cX9_hash 62 = .ok (.iload_n 1, 1) := by decide +kernel
theorem dX9_hash_63 : decode cX9_hash 63 = .ok (.bipush 16, 2) := by decide +kernel
theorem dX9_hash_65 : decode cX9_hash 65 = .ok (.ishr, 1) := by decide +kernel
theorem dX9_hash_66 : decode cX9_hash 66 = .ok (.invokevirtual 152, 3) := by decide +kernel
theorem dX9_hash_69 : decode cX9_hash 69 = .ok (.aload_n 0, 1) := by decide +kernel
theorem dX9_hash_70 : decode cX9_hash 70 = .ok (.iload_n 1, 1) := by decide +kernel
theorem dX9_hash_71 : decode cX9_hash 71 = .ok (.bipush 8, 2) := by decide +kernel
theorem dX9_hash_73 : decode cX9_hash 73 = .ok (.ishr, 1) := by decide +kernel
theorem dX9_hash_74 : decode cX9_hash 74 = .ok (.invokevirtual 152, 3) := by decide +kernel
theorem dX9_hash_77 : decode cX9_hash 77 = .ok (.aload_n 0, 1) := by decide +kernel
theorem dX9_hash_78 : decode cX9_hash 78 = .ok (.iload_n 1, 1) := by decide +kernel
theorem dX9_hash_79 : decode cX9_hash 79 = .ok (.invokevirtual 152, 3) := by decide +kernel
theorem dX9_hash_82 : decode cX9_hash 82 = .ok (.iconst 0, 1) := by decide +kernel
theorem dX9_hash_83 : decode cX9_hash 83 = .ok (.istore_n 2, 1) := by decide +kernel
theorem dX9_hash_84 : decode cX9_hash 84 = .ok (.iload_n 2, 1) := by decide +kernel
theorem dX9_hash_85 : decode cX9_hash 85 = .ok (.bipush 8, 2) := by decide +kernel
theorem dX9_hash_87 : decode cX9_hash 87 = .ok (.if_icmp .ge 21, 3) := by decide +kernel
theorem dX9_hash_90 : decode cX9_hash 90 = .ok (.aload_n 0, 1) := by decide +kernel
theorem dX9_hash_91 : decode cX9_hash 91 = .ok (.getfield 125, 3) := by decide +kernel
theorem dX9_hash_94 : decode cX9_hash 94 = .ok (.iload_n 2, 1) := by decide +kernel
theorem dX9_hash_95 : decode cX9_hash 95 = .ok (.aload_n 0, 1) := by decide +kernel
theorem dX9_hash_96 : decode cX9_hash 96 = .ok (.getfield 85, 3) := by decide +kernel
theorem dX9_hash_99 : decode cX9_hash 99 = .ok (.iload_n 2, 1) := by decide +kernel
theorem dX9_hash_100 : decode cX9_hash 100 = .ok (.iaload, 1) := by decide +kernel
theorem dX9_hash_101 : decode cX9_hash 101 = .ok (.iastore, 1) := by decide +kernel
theorem dX9_hash_102 : decode cX9_hash 102 = .ok (.iinc 2 1, 3) := by decide +kernel
theorem dX9_hash_105 : decode cX9_hash 105 = .ok (.goto (-21), 3) := by decide +kernel
theorem dX9_hash_108 : decode cX9_hash 108 = .ok (.iconst 0, 1) := by decide +kernel
theorem dX9_hash_109 : decode cX9_hash 109 = .ok (.istore_n 2, 1) := by decide +kernel
theorem dX9_hash_110 : decode cX9_hash 110 = .ok (.iload_n 2, 1) := by decide +kernel
theorem dX9_hash_111 : decode cX9_hash 111 = .ok (.aload_n 0, 1) := by decide +kernel
theorem dX9_hash_112 : decode cX9_hash 112 = .ok (.getfield 145, 3) := by decide +kernel
theorem dX9_hash_115 : decode cX9_hash 115 = .ok (.if_icmp .ge 14, 3) := by decide +kernel
theorem dX9_hash_118 : decode cX9_hash 118 = .ok (.aload_n 0, 1) := by decide +kernel
theorem dX9_hash_119 : decode cX9_hash 119 = .ok (.iload_n 2, 1) := by decide +kernel
theorem dX9_hash_120 : decode cX9_hash 120 = .ok (.invokevirtual 155, 3) := by decide +kernel
theorem dX9_hash_123 : decode cX9_hash 123 = .ok (.iinc 2 64, 3) := by decide +kernel
theorem dX9_hash_126 : decode cX9_hash 126 = .ok (.goto (-16), 3) := by decide +kernel
theorem dX9_hash_129 : decode cX9_hash 129 = .ok (.iconst 0, 1) := by decide +kernel
theorem dX9_hash_130 : decode cX9_hash 130 = .ok (.istore_n 2, 1) := by decide +kernel
theorem dX9_hash_131 : decode cX9_hash 131 = .ok (.iload_n 2, 1) := by decide +kernel
theorem dX9_hash_132 : decode cX9_hash 132 = .ok (.bipush 32, 2) := by decide +kernel
theorem dX9_hash_134 : decode cX9_hash 134 = .ok (.if_icmp .ge 37, 3) := by decide +kernel
theorem dX9_hash_137 : decode cX9_hash 137 = .ok (.aload_n 0, 1) := by decide +kernel
theorem dX9_hash_138 : decode cX9_hash 138 = .ok (.getfield 116, 3) := by decide +kernel
theorem dX9_hash_141 : decode cX9_hash 141 = .ok (.iload_n 2, 1) := by decide +kernel
theorem dX9_hash_142 : decode cX9_hash 142 = .ok (.aload_n 0, 1) := by decide +kernel
theorem dX9_hash_143 : decode cX9_hash 143 = .ok (.getfield 125, 3) := by decide +kernel
theorem dX9_hash_146 : decode cX9_hash 146 = .ok (.iload_n 2, 1) := by decide +kernel
theorem dX9_hash_147 : decode cX9_hash 147 = .ok (.iconst 4, 1) := by decide +kernel
theorem dX9_hash_148 : decode cX9_hash 148 = .ok (.idiv, 1) := by decide +kernel
theorem dX9_hash_149 : decode cX9_hash 149 = .ok (.iaload, 1) := by decide +kernel
theorem dX9_hash_150 : decode cX9_hash 150 = .ok (.bipush 24, 2) := by decide +kernel
theorem dX9_hash_152 : decode cX9_hash 152 = .ok (.bipush 8, 2) := by decide +kernel
theorem dX9_hash_154 : decode cX9_hash 154 = .ok (.iload_n 2, 1) := by decide +kernel
theorem dX9_hash_155 : decode cX9_hash 155 = .ok (.iconst 4, 1) := by decide +kernel
theorem dX9_hash_156 : decode cX9_hash 156 = .ok (.irem, 1) := by decide +kernel
theorem dX9_hash_157 : decode cX9_hash 157 = .ok (.imul, 1) := by decide +kernel
theorem dX9_hash_158 : decode cX9_hash 158 = .ok (.isub, 1) := by decide +kernel
theorem dX9_hash_159 : decode cX9_hash 159 = .ok (.iushr, 1) := by decide +kernel
theorem dX9_hash_160 : decode cX9_hash 160 = .ok (.sipush 255, 3) := by decide +kernel
theorem dX9_hash_163 : decode cX9_hash 163 = .ok (.iand, 1) := by decide +kernel
theorem dX9_hash_164 : decode cX9_hash 164 = .ok (.iastore, 1) := by decide +kernel
theorem dX9_hash_165 : decode cX9_hash 165 = .ok (.iinc 2 1, 3) := by decide +kernel
theorem dX9_hash_168 : decode cX9_hash 168 = .ok (.goto (-37), 3) := by decide +kernel
theorem dX9_hash_171 : decode cX9_hash 171 = .ok (.aload_n 0, 1) := by decide +kernel
theorem dX9_hash_172 : decode cX9_hash 172 = .ok (.iconst 0, 1) := by decide +kernel
theorem dX9_hash_173 : decode cX9_hash 173 = .ok (.putfield 145, 3) := by decide +kernel
theorem dX9_hash_176 : decode cX9_hash 176 = .ok (.return_, 1) := by decide +kernel
set_option maxRecDepth 20000 in
theorem ggX9_addKey_X9_add : GoodIn wsX9_addKey wsX9_add := goodIn_r _ [5, 6, 7, 8, 9, 10, 11, 12, 13, 14, 15, 16, 17, 18, 19, 20, 21, 22, 23, 24, 25, 26, 27, 28, 29, 30] (by decide +kernel) (by decide +kernel)
set_option maxRecDepth 20000 in
theorem gX9_addKey_X9_add : GoodIn wsX9_addKey (wsV RX9 152 RX9 yX9_add wsX9_add) := goodIn_app (goodIn_of _ (by decide +kernel)) ggX9_addKey_X9_add
theorem dX9_addKey_0 : decode cX9_addKey 0 = .ok (.iconst 0, 1) := by decide +kernel
theorem dX9_addKey_1 : decode cX9_addKey 1 = .ok (.istore_n 2, 1) := by decide +kernel
theorem dX9_addKey_2 : decode cX9_addKey 2 = .ok (.iload_n 2, 1) := by decide +kernel
theorem dX9_addKey_3 : decode cX9_addKey 3 = .ok (.bipush 64, 2) := by decide +kernel
theorem dX9_addKey_5 : decode cX9_addKey 5 = .ok (.if_icmp .ge 28, 3) := by decide +kernel
theorem dX9_addKey_8 : decode cX9_addKey 8 = .ok (.aload_n 0, 1) := by decide +kernel
theorem dX9_addKey_9 : decode cX9_addKey 9 = .ok (.iload_n 2, 1) := by decide +kernel
theorem dX9_addKey_10 : decode cX9_addKey 10 = .ok (.bipush 32, 2) := by decide +kernel
theorem dX9_addKey_12 : decode cX9_addKey 12 = .ok (.if_icmp .ge 9, 3) := by decide +kernel
theorem dX9_addKey_15 : decode cX9_addKey 15 = .ok (.iload_n 2, 1) := by decide +kernel
theorem dX9_addKey_16 : decode cX9_addKey 16 = .ok (.iconst 1, 1) := by decide +kernel
theorem dX9_addKey_17 : decode cX9_addKey 17 = .ok (.iadd, 1) := by decide +kernel
theorem dX9_addKey_18 : decode cX9_addKey 18 = .ok (.goto 4, 3) := by decide +kernel
theorem dX9_addKey_21 : decode cX9_addKey 21 = .ok (.iconst 0, 1) := by decide +kernel
theorem dX9_addKey_22 : decode cX9_addKey 22 = .ok (.iload_n 1, 1) := by decide +kernel
theorem dX9_addKey_23 : decode cX9_addKey 23 = .ok (.ixor, 1) := by decide +kernel
theorem dX9_addKey_24 : decode cX9_addKey 24 = .ok (.invokevirtual 152, 3) := by decide +kernel
theorem dX9_addKey_27 : decode cX9_addKey 27 = .ok (.iinc 2 1, 3) := by decide +kernel
theorem dX9_addKey_30 : decode cX9_addKey 30 = .ok (.goto (-28), 3) := by decide +kernel
theorem dX9_addKey_33 : decode cX9_addKey 33 = .ok (.return_, 1) := by decide +kernel
set_option maxRecDepth 20000 in
theorem ggX9_mac_X9_addKey : GoodIn wsX9_mac wsX9_addKey := goodIn_r _ [10, 11, 12, 13, 9, 14, 15, 1, 31, 32, 33, 34, 35, 36, 37, 38, 39, 40, 41, 42, 43, 44, 45, 46, 47, 48, 49, 50, 51, 52, 53] (by decide +kernel) (by decide +kernel)
set_option maxRecDepth 20000 in
theorem gX9_mac_X9_addKey : GoodIn wsX9_mac (wsV RX9 158 RX9 yX9_addKey wsX9_addKey) := goodIn_app (goodIn_of _ (by decide +kernel)) ggX9_mac_X9_addKey
set_option maxRecDepth 20000 in
theorem ggX9_mac_X9_add : GoodIn wsX9_mac wsX9_add := goodIn_r _ [14, 15, 1, 31, 32, 33, 34, 35, 36, 37, 38, 39, 40, 41, 42, 43, 44, 45, 46, 47, 48, 49, 50, 51, 52, 53] (by decide +kernel) (by decide +kernel)
set_option maxRecDepth 20000 in
theorem gX9_mac_X9_add : GoodIn wsX9_mac (wsV RX9 152 RX9 yX9_add wsX9_add) := goodIn_app (goodIn_of _ (by decide +kernel)) ggX9_mac_X9_add
set_option maxRecDepth 20000 in
theorem ggX9_mac_X9_hash : GoodIn wsX9_mac wsX9_hash := goodIn_r _ [19, 1, 20, 21, 5, 11, 12, 13, 9, 14, 15, 22, 23, 24, 25, 26, 27, 28, 29, 30, 31, 32, 33, 34, 35, 36, 37, 38, 39, 40, 41, 42, 43, 44, 45, 46, 47, 48, 49, 50, 51, 52, 53] (by decide +kernel) (by decide +kernel)
set_option maxRecDepth 20000 in
theorem gX9_mac_X9_hash : GoodIn wsX9_mac (wsV RX9 164 RX9 yX9_hash wsX9_hash) := goodIn_app (goodIn_of _ (by decide +kernel)) ggX9_mac_X9_hash
theorem dX9_mac_0 : decode cX9_mac 0 = .ok (.aload_n 0, 1) := by decide +kernel
theorem dX9_mac_1 : decode cX9_mac 1 = .ok (.iconst 0, 1) := by decide +kernel
theorem dX9_mac_2 : decode cX9_mac 2 = .ok (.putfield 145, 3) := by decide +kernel
theorem dX9_mac_5 : decode cX9_mac 5 = .ok (.aload_n 0, 1) := by decide +kernel
theorem dX9_mac_6 : decode cX9_mac 6 = .ok (.bipush 54, 2) := by decide +kernel
theorem dX9_mac_8 : decode cX9_mac 8 = .ok (.invokevirtual 158, 3) := by decide +kernel
theorem dX9_mac_11 : decode cX9_mac 11 = .ok (.iconst 0, 1) := by decide +kernel
theorem dX9_mac_12 : decode cX9_mac 12 = .ok (.istore_n 1, 1) := by decide +kernel
theorem dX9_mac_13 : decode cX9_mac 13 = .ok (.iload_n 1, 1) := by decide +kernel
theorem dX9_mac_14 : decode cX9_mac 14 = .ok (.aload_n 0, 1) := by decide +kernel
theorem dX9_mac_15 : decode cX9_mac 15 = .ok (.getfield 161, 3) := by decide +kernel
theorem dX9_mac_18 : decode cX9_mac 18 = .ok (.if_icmp .ge 19, 3) := by decide +kernel
theorem dX9_mac_21 : decode cX9_mac 21 = .ok (.aload_n 0, 1) := by decide +kernel
theorem dX9_mac_22 : decode cX9_mac 22 = .ok (.aload_n 0, 1) := by decide +kernel
theorem dX9_mac_23 : decode cX9_mac 23 = .ok (.getfield 131, 3) := by decide +kernel
theorem dX9_mac_26 : decode cX9_mac 26 = .ok (.iload_n 1, 1) := by decide +kernel
theorem dX9_mac_27 : decode cX9_mac 27 = .ok (.iaload, 1) := by decide +kernel
theorem dX9_mac_28 : decode cX9_mac 28 = .ok (.invokevirtual 152, 3) := by decide +kernel
theorem dX9_mac_31 : decode cX9_mac 31 = .ok (.iinc 1 1, 3) := by decide +kernel
theorem dX9_mac_34 : decode cX9_mac 34 = .ok (.goto (-21), 3) := by decide +kernel
theorem dX9_mac_37 : decode cX9_mac 37 = .ok (.aload_n 0, 1) := by decide +kernel
theorem dX9_mac_38 : decode cX9_mac 38 = .ok (.invokevirtual 164, 3) := by decide +kernel
theorem dX9_mac_41 : decode cX9_mac 41 = .ok (.iconst 0, 1) := by decide +kernel
theorem dX9_mac_42 : decode cX9_mac 42 = .ok (.istore_n 1, 1) := by decide +kernel
theorem dX9_mac_43 : decode cX9_mac 43 = .ok (.iload_n 1, 1) := by decide +kernel
theorem dX9_mac_44 : decode cX9_mac 44 = .ok (.bipush 32, 2) := by decide +kernel
theorem dX9_mac_46 : decode cX9_mac 46 = .ok (.if_icmp .ge 21, 3) := by decide +kernel
theorem dX9_mac_49 : decode cX9_mac 49 = .ok (.aload_n 0, 1) := by decide +kernel
theorem dX9_mac_50 : decode cX9_mac 50 = .ok (.getfield 119, 3) := by decide +kernel
theorem dX9_mac_53 : decode cX9_mac 53 = .ok (.iload_n 1, 1) := by decide +kernel
theorem dX9_mac_54 : decode cX9_mac 54 = .ok (.aload_n 0, 1) := by decide +kernel
theorem dX9_mac_55 : decode cX9_mac 55 = .ok (.getfield 116, 3) := by decide +kernel
theorem dX9_mac_58 : decode cX9_mac 58 = .ok (.iload_n 1, 1) := by decide +kernel
theorem dX9_mac_59 : decode cX9_mac 59 = .ok (.iaload, 1) := by decide +kernel
theorem dX9_mac_60 : decode cX9_mac 60 = .ok (.iastore, 1) := by decide +kernel
theorem dX9_mac_61 : decode cX9_mac 61 = .ok (.iinc 1 1, 3) := by decide +kernel
theorem dX9_mac_64 : decode cX9_mac 64 = .ok (.goto (-21), 3) := by decide +kernel
theorem dX9_mac_67 : decode cX9_mac 67 = .ok (.aload_n 0, 1) := by decide +kernel
theorem dX9_mac_68 : decode cX9_mac 68 = .ok (.bipush 92, 2) := by decide +kernel
theorem dX9_mac_70 : decode cX9_mac 70 = .ok (.invokevirtual 158, 3) := by decide +kernel
theorem dX9_mac_73 : decode cX9_mac 73 = .ok (.iconst 0, 1) := by decide +kernel
theorem dX9_mac_74 : decode cX9_mac 74 = .ok (.istore_n 1, 1) := by decide +kernel
theorem dX9_mac_75 : decode cX9_mac 75 = .ok (.iload_n 1, 1) := by decide +kernel
theorem dX9_mac_76 : decode cX9_mac 76 = .ok (.bipush 32, 2) := by decide +kernel
theorem dX9_mac_78 : decode cX9_mac 78 = .ok (.if_icmp .ge 19, 3) := by decide +kernel
theorem dX9_mac_81 : decode cX9_mac 81 = .ok (.aload_n 0, 1) := by decide +kernel
theorem dX9_mac_82 : decode cX9_mac 82 = .ok (.aload_n 0, 1) := by decide +kernel
theorem dX9_mac_83 : decode cX9_mac 83 = .ok (.getfield 119, 3) := by decide +kernel
theorem dX9_mac_86 : decode cX9_mac 86 = .ok (.iload_n 1, 1) := by decide +kernel
theorem dX9_mac_87 : decode cX9_mac 87 = .ok (.iaload, 1) := by decide +kernel
theorem dX9_mac_88 : decode cX9_mac 88 = .ok (.invokevirtual 152, 3) := by decide +kernel
theorem dX9_mac_91 : decode cX9_mac 91 = .ok (.iinc 1 1, 3) := by decide +kernel
theorem dX9_mac_94 : decode cX9_mac 94 = .ok (.goto (-19), 3) := by decide +kernel
theorem dX9_mac_97 : decode cX9_mac 97 = .ok (.aload_n 0, 1) := by decide +kernel
theorem dX9_mac_98 : decode cX9_mac 98 = .ok (.invokevirtual 164, 3) := by decide +kernel
theorem dX9_mac_101 : decode cX9_mac 101 = .ok (.return_, 1) := by decide +kernel
set_option maxRecDepth 20000 in
theorem ggX9_findRoot_X9_add : GoodIn wsX9_findRoot wsX9_add := goodIn_r _ [10, 11, 1, 27, 28, 29, 30, 31, 32, 33, 34, 35, 36, 37, 38, 39, 40, 41, 42, 43, 44, 45, 46, 47, 48, 49] (by decide +kernel) (by decide +kernel)
set_option maxRecDepth 20000 in
theorem gX9_findRoot_X9_add : GoodIn wsX9_findRoot (wsV RX9 152 RX9 yX9_add wsX9_add) := goodIn_app (goodIn_of _ (by decide +kernel)) ggX9_findRoot_X9_add
set_option maxRecDepth 20000 in
theorem ggX9_findRoot_X9_hash : GoodIn wsX9_findRoot wsX9_hash := goodIn_r _ [15, 1, 16, 17, 5, 6, 7, 8, 9, 10, 11, 18, 19, 20, 21, 22, 23, 24, 25, 26, 27, 28, 29, 30, 31, 32, 33, 34, 35, 36, 37, 38, 39, 40, 41, 42, 43, 44, 45, 46, 47, 48, 49] (by decide +kernel) (by decide +kernel)
set_option maxRecDepth 20000 in
theorem gX9_findRoot_X9_hash : GoodIn wsX9_findRoot (wsV RX9 164 RX9 yX9_hash wsX9_hash) := goodIn_app (goodIn_of _ (by decide +kernel)) ggX9_findRoot_X9_hash
theorem dX9_findRoot_0 : decode cX9_findRoot 0 = .ok (.iconst 0, 1) := by decide +kernel
theorem dX9_findRoot_1 : decode cX9_findRoot 1 = .ok (.istore_n 2, 1) := by decide +kernel
theorem dX9_findRoot_2 : decode cX9_findRoot 2 = .ok (.iload_n 2, 1) := by decide +kernel
theorem dX9_findRoot_3 : decode cX9_findRoot 3 = .ok (.bipush 16, 2) := by decide +kernel
theorem dX9_findRoot_5 : decode cX9_findRoot 5 = .ok (.if_icmp .ge 116, 3) := by decide +kernel
theorem dX9_findRoot_8 : decode cX9_findRoot 8 = .ok (.bipush 16, 2) := by decide +kernel
theorem dX9_findRoot_10 : decode cX9_findRoot 10 = .ok (.iload_n 1, 1) := by decide +kernel
theorem dX9_findRoot_11 : decode cX9_findRoot 11 = .ok (.imul, 1) := by decide +kernel
theorem dX9_findRoot_12 : decode cX9_findRoot 12 = .ok (.iload_n 2, 1) := by decide +kernel
theorem dX9_findRoot_13 : decode cX9_findRoot 13 = .ok (.iadd, 1) := by decide +kernel
theorem dX9_findRoot_14 : decode cX9_findRoot 14 = .ok (.istore_n 3, 1) := by decide +kernel
theorem dX9_findRoot_15 : decode cX9_findRoot 15 = .ok (.aload_n 0, 1) := by decide +kernel
theorem dX9_findRoot_16 : decode cX9_findRoot 16 = .ok (.iconst 0, 1) := by decide +kernel
theorem dX9_findRoot_17 : decode cX9_findRoot 17 = .ok (.putfield 145, 3) := by decide +kernel
theorem dX9_findRoot_20 : decode cX9_findRoot 20 = .ok (.aload_n 0, 1) := by decide +kernel
theorem dX9_findRoot_21 : decode cX9_findRoot 21 = .ok (.iconst 0, 1) := by decide +kernel
theorem dX9_findRoot_22 : decode cX9_findRoot 22 = .ok (.invokevirtual 152, 3) := by decide +kernel
theorem dX9_findRoot_25 : decode cX9_findRoot 25 = .ok (.aload_n 0, 1) := by decide +kernel
theorem dX9_findRoot_26 : decode cX9_findRoot 26 = .ok (.iload_n 2, 1) := by decide +kernel
theorem dX9_findRoot_27 : decode cX9_findRoot 27 = .ok (.invokevirtual 152, 3) := by decide +kernel
theorem dX9_findRoot_30 : decode cX9_findRoot 30 = .ok (.aload_n 0, 1) := by decide +kernel
theorem dX9_findRoot_31 : decode cX9_findRoot 31 = .ok (.aload_n 0, 1) := by decide +kernel
theorem dX9_findRoot_32 : decode cX9_findRoot 32 = .ok (.getfield 97, 3) := by decide +kernel
theorem dX9_findRoot_35 : decode cX9_findRoot 35 = .ok (.iload_n 3, 1) := by decide +kernel
theorem dX9_findRoot_36 : decode cX9_findRoot 36 = .ok (.iaload, 1) := by decide +kernel
theorem dX9_findRoot_37 : decode cX9_findRoot 37 = .ok (.invokevirtual 152, 3) := by decide +kernel
theorem dX9_findRoot_40 : decode cX9_findRoot 40 = .ok (.iconst 0, 1) := by decide +kernel
theorem dX9_findRoot_41 : decode cX9_findRoot 41 = .ok (.istore 4, 2) := by decide +kernel
theorem dX9_findRoot_43 : decode cX9_findRoot 43 = .ok (.iload 4, 2) := by decide +kernel
theorem dX9_findRoot_45 : decode cX9_findRoot 45 = .ok (.aload_n 0, 1) := by decide +kernel
theorem dX9_findRoot_46 : decode cX9_findRoot 46 = .ok (.getfield 97, 3) := by decide +kernel
theorem dX9_findRoot_49 : decode cX9_findRoot 49 = .ok (.iload_n 3, 1) := by decide +kernel
theorem dX9_findRoot_50 : decode cX9_findRoot 50 = .ok (.iaload, 1) := by decide +kernel
theorem dX9_findRoot_51 : decode cX9_findRoot 51 = .ok (.if_icmp .ge 25, 3) := by decide +kernel
theorem dX9_findRoot_54 : decode cX9_findRoot 54 = .ok (.aload_n 0, 1) := by decide +kernel
theorem dX9_findRoot_55 : decode cX9_findRoot 55 = .ok (.aload_n 0, 1) := by decide +kernel
theorem dX9_findRoot_56 : decode cX9_findRoot 56 = .ok (.getfield 94, 3) := by decide +kernel
theorem dX9_findRoot_59 : decode cX9_findRoot 59 = .ok (.bipush 12, 2) := by decide +kernel
theorem dX9_findRoot_61 : decode cX9_findRoot 61 = .ok (.iload_n 3, 1) := by decide +kernel
theorem dX9_findRoot_62 : decode cX9_findRoot 62 = .ok (.imul, 1) := by decide +kernel
theorem dX9_findRoot_63 : decode cX9_findRoot 63 = .ok (.iload 4, 2) := by decide +kernel
theorem dX9_findRoot_65 : decode cX9_findRoot 65 = .ok (.iadd, 1) := by decide +kernel
theorem dX9_findRoot_66 : decode cX9_findRoot 66 = .ok (.iaload, 1) := by decide +kernel
theorem dX9_findRoot_67 : decode cX9_findRoot 67 = .ok (.invokevirtual 152, 3) := by decide +kernel
theorem dX9_findRoot_70 : decode cX9_findRoot 70 = .ok (.iinc 4 1, 3) := by decide +kernel
theorem dX9_findRoot_73 : decode cX9_findRoot 73 = .ok (.goto (-30), 3) := by decide +kernel
theorem dX9_findRoot_76 : decode cX9_findRoot 76 = .ok (.aload_n 0, 1) := by decide +kernel
theorem dX9_findRoot_77 : decode cX9_findRoot 77 = .ok (.invokevirtual 164, 3) := by decide +kernel
theorem dX9_findRoot_80 : decode cX9_findRoot 80 = .ok (.iconst 0, 1) := by decide +kernel
theorem dX9_findRoot_81 : decode cX9_findRoot 81 = .ok (.istore 4, 2) := by decide +kernel
theorem dX9_findRoot_83 : decode cX9_findRoot 83 = .ok (.iload 4, 2) := by decide +kernel
theorem dX9_findRoot_85 : decode cX9_findRoot 85 = .ok (.bipush 32, 2) := by decide +kernel
theorem dX9_findRoot_87 : decode cX9_findRoot 87 = .ok (.if_icmp .ge 28, 3) := by decide +kernel
theorem dX9_findRoot_90 : decode cX9_findRoot 90 = .ok (.aload_n 0, 1) := by decide +kernel
theorem dX9_findRoot_91 : decode cX9_findRoot 91 = .ok (.getfield 128, 3) := by decide +kernel
theorem dX9_findRoot_94 : decode cX9_findRoot 94 = .ok (.bipush 32, 2) := by decide +kernel
theorem dX9_findRoot_96 : decode cX9_findRoot 96 = .ok (.iload_n 2, 1) := by decide +kernel
theorem dX9_findRoot_97 : decode cX9_findRoot 97 = .ok (.imul, 1) := by decide +kernel
theorem dX9_findRoot_98 : decode cX9_findRoot 98 = .ok (.iload 4, 2) := by decide +kernel
theorem dX9_findRoot_100 : decode cX9_findRoot 100 = .ok (.iadd, 1) := by decide +kernel
theorem dX9_findRoot_101 : decode cX9_findRoot 101 = .ok (.aload_n 0, 1) := by decide +kernel
theorem dX9_findRoot_102 : decode cX9_findRoot 102 = .ok (.getfield 116, 3) := by decide +kernel
theorem dX9_findRoot_105 : decode cX9_findRoot 105 = .ok (.iload 4, 2) := by decide +kernel
theorem dX9_findRoot_107 : decode cX9_findRoot 107 = .ok (.iaload, 1) := by decide +kernel
theorem dX9_findRoot_108 : decode cX9_findRoot 108 = .ok (.iastore, 1) := by decide +kernel
theorem dX9_findRoot_109 : decode cX9_findRoot 109 = .ok (.iinc 4 1, 3) := by decide +kernel
theorem dX9_findRoot_112 : decode cX9_findRoot 112 = .ok (.goto (-29), 3) := by decide +kernel
theorem dX9_findRoot_115 : decode cX9_findRoot 115 = .ok (.iinc 2 1, 3) := by decide +kernel
theorem dX9_findRoot_118 : decode cX9_findRoot 118 = .ok (.goto (-116), 3) := by decide +kernel
theorem dX9_findRoot_121 : decode cX9_findRoot 121 = .ok (.bipush 8, 2) := by decide +kernel
theorem dX9_findRoot_123 : decode cX9_findRoot 123 = .ok (.istore_n 2, 1) := by decide +kernel
theorem dX9_findRoot_124 : decode cX9_findRoot 124 = .ok (.iload_n 2, 1) := by decide +kernel
theorem dX9_findRoot_125 : decode cX9_findRoot 125 = .ok (.ifCond .le 99, 3) := by decide +kernel
theorem dX9_findRoot_128 : decode cX9_findRoot 128 = .ok (.iconst 0, 1) := by decide +kernel
theorem dX9_findRoot_129 : decode cX9_findRoot 129 = .ok (.istore_n 3, 1) := by decide +kernel
theorem dX9_findRoot_130 : decode cX9_findRoot 130 = .ok (.iload_n 3, 1) := by decide +kernel
theorem dX9_findRoot_131 : decode cX9_findRoot 131 = .ok (.iload_n 2, 1) := by decide +kernel
theorem dX9_findRoot_132 : decode cX9_findRoot 132 = .ok (.if_icmp .ge 85, 3) := by decide +kernel
theorem dX9_findRoot_135 : decode cX9_findRoot 135 = .ok (.aload_n 0, 1) := by decide +kernel
theorem dX9_findRoot_136 : decode cX9_findRoot 136 = .ok (.iconst 1, 1) := by decide +kernel
theorem dX9_findRoot_137 : decode cX9_findRoot 137 = .ok (.invokevirtual 152, 3) := by decide +kernel
theorem dX9_findRoot_140 : decode cX9_findRoot 140 = .ok (.iconst 0, 1) := by decide +kernel
theorem dX9_findRoot_141 : decode cX9_findRoot 141 = .ok (.istore 4, 2) := by decide +kernel
theorem dX9_findRoot_143 : decode cX9_findRoot 143 = .ok (.iload 4, 2) := by decide +kernel
theorem dX9_findRoot_145 : decode cX9_findRoot 145 = .ok (.bipush 64, 2) := by decide +kernel
theorem dX9_findRoot_147 : decode cX9_findRoot 147 = .ok (.if_icmp .ge 25, 3) := by decide +kernel
theorem dX9_findRoot_150 : decode cX9_findRoot 150 = .ok (.aload_n 0, 1) := by decide +kernel
theorem dX9_findRoot_151 : decode cX9_findRoot 151 = .ok (.aload_n 0, 1) := by decide +kernel
theorem dX9_findRoot_152 : decode cX9_findRoot 152 = .ok (.getfield 128, 3) := by decide +kernel
theorem dX9_findRoot_155 : decode cX9_findRoot 155 = .ok (.bipush 64, 2) := by decide +kernel
theorem dX9_findRoot_157 : decode cX9_findRoot 157 = .ok (.iload_n 3, 1) := by decide +kernel
theorem dX9_findRoot_158 : decode cX9_findRoot 158 = .ok (.imul, 1) := by decide +kernel
theorem dX9_findRoot_159 : decode cX9_findRoot 159 = .ok (.iload 4, 2) := by decide +kernel
theorem dX9_findRoot_161 : decode cX9_findRoot 161 = .ok (.iadd, 1) := by decide +kernel
theorem dX9_findRoot_162 : decode cX9_findRoot 162 = .ok (.iaload, 1) := by decide +kernel
theorem dX9_findRoot_163 : decode cX9_findRoot 163 = .ok (.invokevirtual 152, 3) := by decide +kernel
theorem dX9_findRoot_166 : decode cX9_findRoot 166 = .ok (.iinc 4 1, 3) := by decide +kernel
theorem dX9_findRoot_169 : decode cX9_findRoot 169 = .ok (.goto (-26), 3) := by decide +kernel
theorem dX9_findRoot_172 : decode cX9_findRoot 172 = .ok (.aload_n 0, 1) := by decide +kernel
theorem dX9_findRoot_173 : decode cX9_findRoot 173 = .ok (.invokevirtual 164, 3) := by decide +kernel
theorem dX9_findRoot_176 : decode cX9_findRoot 176 = .ok (.iconst 0, 1) := by decide +kernel
theorem dX9_findRoot_177 : decode cX9_findRoot 177 = .ok (.istore 4, 2) := by decide +kernel
theorem dX9_findRoot_179 : decode cX9_findRoot 179 = .ok (.iload 4, 2) := by decide +kernel
theorem dX9_findRoot_181 : decode cX9_findRoot 181 = .ok (.bipush 32, 2) := by decide +kernel
theorem dX9_findRoot_183 : decode cX9_findRoot 183 = .ok (.if_icmp .ge 28, 3) := by decide +kernel
theorem dX9_findRoot_186 : decode cX9_findRoot 186 = .ok (.aload_n 0, 1) := by decide +kernel
theorem dX9_findRoot_187 : decode cX9_findRoot 187 = .ok (.getfield 128, 3) := by decide +kernel
theorem dX9_findRoot_190 : decode cX9_findRoot 190 = .ok (.bipush 32, 2) := by decide +kernel
theorem dX9_findRoot_192 : decode cX9_findRoot 192 = .ok (.iload_n 3, 1) := by decide +kernel
theorem dX9_findRoot_193 : decode cX9_findRoot 193 = .ok (.imul, 1) := by decide +kernel
theorem dX9_findRoot_194 : decode cX9_findRoot 194 = .ok (.iload 4, 2) := by decide +kernel
theorem dX9_findRoot_196 : decode cX9_findRoot 196 = .ok (.iadd, 1) := by decide +kernel
theorem dX9_findRoot_197 : decode cX9_findRoot 197 = .ok (.aload_n 0, 1) := by decide +kernel
theorem dX9_findRoot_198 : decode cX9_findRoot 198 = .ok (.getfield 116, 3) := by decide +kernel
theorem dX9_findRoot_201 : decode cX9_findRoot 201 = .ok (.iload 4, 2) := by decide +kernel
theorem dX9_findRoot_203 : decode cX9_findRoot 203 = .ok (.iaload, 1) := by decide +kernel
theorem dX9_findRoot_204 : decode cX9_findRoot 204 = .ok (.iastore, 1) := by decide +kernel
theorem dX9_findRoot_205 : decode cX9_findRoot 205 = .ok (.iinc 4 1, 3) := by decide +kernel
theorem dX9_findRoot_208 : decode cX9_findRoot 208 = .ok (.goto (-29), 3) := by decide +kernel
theorem dX9_findRoot_211 : decode cX9_findRoot 211 = .ok (.iinc 3 1, 3) := by decide +kernel
theorem dX9_findRoot_214 : decode cX9_findRoot 214 = .ok (.goto (-84), 3) := by decide +kernel
theorem dX9_findRoot_217 : decode cX9_findRoot 217 = .ok (.iload_n 2, 1) := by decide +kernel
theorem dX9_findRoot_218 : decode cX9_findRoot 218 = .ok (.iconst 2, 1) := by decide +kernel
theorem dX9_findRoot_219 : decode cX9_findRoot 219 = .ok (.idiv, 1) := by decide +kernel
theorem dX9_findRoot_220 : decode cX9_findRoot 220 = .ok (.istore_n 2, 1) := by decide +kernel
theorem dX9_findRoot_221 : decode cX9_findRoot 221 = .ok (.goto (-97), 3) := by decide +kernel
theorem dX9_findRoot_224 : decode cX9_findRoot 224 = .ok (.return_, 1) := by decide +kernel
set_option maxRecDepth 20000 in
theorem ggX9_sign_X9_mac : GoodIn wsX9_sign wsX9_mac := goodIn_r _ [10, 11, 3, 4, 12, 5, 13, 14, 15, 9, 16, 17, 18, 19, 20, 21, 22, 23, 24, 25, 26, 27, 28, 29, 30, 31, 32, 33, 34, 35, 36, 37, 38, 39, 40, 41, 42, 43, 44, 45, 46, 47, 48, 49, 50, 51, 52, 53, 54, 55, 56, 57, 58, 59] (by decide +kernel) (by decide +kernel)
set_option maxRecDepth 20000 in
theorem gX9_sign_X9_mac : GoodIn wsX9_sign (wsV RX9 167 RX9 yX9_mac wsX9_mac) := goodIn_app (goodIn_of _ (by decide +kernel)) ggX9_sign_X9_mac
theorem dX9_sign_0 : decode cX9_sign 0 = .ok (.bipush 84, 2) := by decide +kernel
theorem dX9_sign_2 : decode cX9_sign 2 = .ok (.iload_n 1, 1) := by decide +kernel
theorem dX9_sign_3 : decode cX9_sign 3 = .ok (.imul, 1) := by decide +kernel
theorem dX9_sign_4 : decode cX9_sign 4 = .ok (.istore_n 2, 1) := by decide +kernel
theorem dX9_sign_5 : decode cX9_sign 5 = .ok (.iconst 0, 1) := by decide +kernel
theorem dX9_sign_6 : decode cX9_sign 6 = .ok (.istore_n 3, 1) := by decide +kernel
theorem dX9_sign_7 : decode cX9_sign 7 = .ok (.iload_n 3, 1) := by decide +kernel
theorem dX9_sign_8 : decode cX9_sign 8 = .ok (.bipush 32, 2) := by decide +kernel
theorem dX9_sign_10 : decode cX9_sign 10 = .ok (.if_icmp .ge 26, 3) := by decide +kernel
theorem dX9_sign_13 : decode cX9_sign 13 = .ok (.aload_n 0, 1) := by decide +kernel
theorem dX9_sign_14 : decode cX9_sign 14 = .ok (.getfield 91, 3) := by decide +kernel
theorem dX9_sign_17 : decode cX9_sign 17 = .ok (.iload_n 2, 1) := by decide +kernel
theorem dX9_sign_18 : decode cX9_sign 18 = .ok (.bipush 20, 2) := by decide +kernel
theorem dX9_sign_20 : decode cX9_sign 20 = .ok (.iadd, 1) := by decide +kernel
theorem dX9_sign_21 : decode cX9_sign 21 = .ok (.iload_n 3, 1) := by decide +kernel
theorem dX9_sign_22 : decode cX9_sign 22 = .ok (.iadd, 1) := by decide +kernel
theorem dX9_sign_23 : decode cX9_sign 23 = .ok (.aload_n 0, 1) := by decide +kernel
theorem dX9_sign_24 : decode cX9_sign 24 = .ok (.getfield 128, 3) := by decide +kernel
theorem dX9_sign_27 : decode cX9_sign 27 = .ok (.iload_n 3, 1) := by decide +kernel
theorem dX9_sign_28 : decode cX9_sign 28 = .ok (.iaload, 1) := by decide +kernel
theorem dX9_sign_29 : decode cX9_sign 29 = .ok (.iastore, 1) := by decide +kernel
theorem dX9_sign_30 : decode cX9_sign 30 = .ok (.iinc 3 1, 3) := by decide +kernel
theorem dX9_sign_33 : decode cX9_sign 33 = .ok (.goto (-26), 3) := by decide +kernel
theorem dX9_sign_36 : decode cX9_sign 36 = .ok (.aload_n 0, 1) := by decide +kernel
theorem dX9_sign_37 : decode cX9_sign 37 = .ok (.bipush 52, 2) := by decide +kernel
theorem dX9_sign_39 : decode cX9_sign 39 = .ok (.putfield 161, 3) := by decide +kernel
theorem dX9_sign_42 : decode cX9_sign 42 = .ok (.iconst 0, 1) := by decide +kernel
theorem dX9_sign_43 : decode cX9_sign 43 = .ok (.istore_n 3, 1) := by decide +kernel
theorem dX9_sign_44 : decode cX9_sign 44 = .ok (.iload_n 3, 1) := by decide +kernel
theorem dX9_sign_45 : decode cX9_sign 45 = .ok (.bipush 52, 2) := by decide +kernel
theorem dX9_sign_47 : decode cX9_sign 47 = .ok (.if_icmp .ge 23, 3) := by decide +kernel
theorem dX9_sign_50 : decode cX9_sign 50 = .ok (.aload_n 0, 1) := by decide +kernel
theorem dX9_sign_51 : decode cX9_sign 51 = .ok (.getfield 131, 3) := by decide +kernel
theorem dX9_sign_54 : decode cX9_sign 54 = .ok (.iload_n 3, 1) := by decide +kernel
theorem dX9_sign_55 : decode cX9_sign 55 = .ok (.aload_n 0, 1) := by decide +kernel
theorem dX9_sign_56 : decode cX9_sign 56 = .ok (.getfield 91, 3) := by decide +kernel
theorem dX9_sign_59 : decode cX9_sign 59 = .ok (.iload_n 2, 1) := by decide +kernel
theorem dX9_sign_60 : decode cX9_sign 60 = .ok (.iload_n 3, 1) := by decide +kernel
theorem dX9_sign_61 : decode cX9_sign 61 = .ok (.iadd, 1) := by decide +kernel
theorem dX9_sign_62 : decode cX9_sign 62 = .ok (.iaload, 1) := by decide +kernel
theorem dX9_sign_63 : decode cX9_sign 63 = .ok (.iastore, 1) := by decide +kernel
theorem dX9_sign_64 : decode cX9_sign 64 = .ok (.iinc 3 1, 3) := by decide +kernel
theorem dX9_sign_67 : decode cX9_sign 67 = .ok (.goto (-23), 3) := by decide +kernel
theorem dX9_sign_70 : decode cX9_sign 70 = .ok (.aload_n 0, 1) := by decide +kernel
theorem dX9_sign_71 : decode cX9_sign 71 = .ok (.invokevirtual 167, 3) := by decide +kernel
theorem dX9_sign_74 : decode cX9_sign 74 = .ok (.iconst 0, 1) := by decide +kernel
theorem dX9_sign_75 : decode cX9_sign 75 = .ok (.istore_n 3, 1) := by decide +kernel
theorem dX9_sign_76 : decode cX9_sign 76 = .ok (.iload_n 3, 1) := by decide +kernel
theorem dX9_sign_77 : decode cX9_sign 77 = .ok (.bipush 32, 2) := by decide +kernel
theorem dX9_sign_79 : decode cX9_sign 79 = .ok (.if_icmp .ge 26, 3) := by decide +kernel
theorem dX9_sign_82 : decode cX9_sign 82 = .ok (.aload_n 0, 1) := by decide +kernel
theorem dX9_sign_83 : decode cX9_sign 83 = .ok (.getfield 91, 3) := by decide +kernel
theorem dX9_sign_86 : decode cX9_sign 86 = .ok (.iload_n 2, 1) := by decide +kernel
theorem dX9_sign_87 : decode cX9_sign 87 = .ok (.bipush 52, 2) := by decide +kernel
theorem dX9_sign_89 : decode cX9_sign 89 = .ok (.iadd, 1) := by decide +kernel
theorem dX9_sign_90 : decode cX9_sign 90 = .ok (.iload_n 3, 1) := by decide +kernel
theorem dX9_sign_91 : decode cX9_sign 91 = .ok (.iadd, 1) := by decide +kernel
theorem dX9_sign_92 : decode cX9_sign 92 = .ok (.aload_n 0, 1) := by decide +kernel
theorem dX9_sign_93 : decode cX9_sign 93 = .ok (.getfield 116, 3) := by decide +kernel
theorem dX9_sign_96 : decode cX9_sign 96 = .ok (.iload_n 3, 1) := by decide +kernel
theorem dX9_sign_97 : decode cX9_sign 97 = .ok (.iaload, 1) := by decide +kernel
theorem dX9_sign_98 : decode cX9_sign 98 = .ok (.iastore, 1) := by decide +kernel
theorem dX9_sign_99 : decode cX9_sign 99 = .ok (.iinc 3 1, 3) := by decide +kernel
theorem dX9_sign_102 : decode cX9_sign 102 = .ok (.goto (-26), 3) := by decide +kernel
theorem dX9_sign_105 : decode cX9_sign 105 = .ok (.return_, 1) := by decide +kernel
theorem dX9_placeOf_0 : decode cX9_placeOf 0 = .ok (.bipush 84, 2) := by decide +kernel
theorem dX9_placeOf_2 : decode cX9_placeOf 2 = .ok (.iconst 4, 1) := by decide +kernel
theorem dX9_placeOf_3 : decode cX9_placeOf 3 = .ok (.iload_n 0, 1) := by decide +kernel
theorem dX9_placeOf_4 : decode cX9_placeOf 4 = .ok (.imul, 1) := by decide +kernel
theorem dX9_placeOf_5 : decode cX9_placeOf 5 = .ok (.iload_n 1, 1) := by decide +kernel
theorem dX9_placeOf_6 : decode cX9_placeOf 6 = .ok (.iadd, 1) := by decide +kernel
theorem dX9_placeOf_7 : decode cX9_placeOf 7 = .ok (.imul, 1) := by decide +kernel
theorem dX9_placeOf_8 : decode cX9_placeOf 8 = .ok (.ireturn, 1) := by decide +kernel
set_option maxRecDepth 20000 in
theorem ggX9_tell_X9_placeOf : GoodIn wsX9_tell wsX9_placeOf := goodIn_r _ [6] (by decide +kernel) (by decide +kernel)
set_option maxRecDepth 20000 in
theorem gX9_tell_X9_placeOf : GoodIn wsX9_tell (va_wsS RX9 170 yX9_placeOf wsX9_placeOf) := goodIn_app (goodIn_of _ (by decide +kernel)) ggX9_tell_X9_placeOf
theorem dX9_tell_0 : decode cX9_tell 0 = .ok (.iconst 0, 1) := by decide +kernel
theorem dX9_tell_1 : decode cX9_tell 1 = .ok (.istore_n 3, 1) := by decide +kernel
theorem dX9_tell_2 : decode cX9_tell 2 = .ok (.iload_n 3, 1) := by decide +kernel
theorem dX9_tell_3 : decode cX9_tell 3 = .ok (.bipush 84, 2) := by decide +kernel
theorem dX9_tell_5 : decode cX9_tell 5 = .ok (.if_icmp .ge 32, 3) := by decide +kernel
theorem dX9_tell_8 : decode cX9_tell 8 = .ok (.aload_n 0, 1) := by decide +kernel
theorem dX9_tell_9 : decode cX9_tell 9 = .ok (.getfield 88, 3) := by decide +kernel
theorem dX9_tell_12 : decode cX9_tell 12 = .ok (.iload_n 1, 1) := by decide +kernel
theorem dX9_tell_13 : decode cX9_tell 13 = .ok (.iload_n 2, 1) := by decide +kernel
theorem dX9_tell_14 : decode cX9_tell 14 = .ok (.invokestatic 170, 3) := by decide +kernel
theorem dX9_tell_17 : decode cX9_tell 17 = .ok (.iload_n 3, 1) := by decide +kernel
theorem dX9_tell_18 : decode cX9_tell 18 = .ok (.iadd, 1) := by decide +kernel
theorem dX9_tell_19 : decode cX9_tell 19 = .ok (.aload_n 0, 1) := by decide +kernel
theorem dX9_tell_20 : decode cX9_tell 20 = .ok (.getfield 91, 3) := by decide +kernel
theorem dX9_tell_23 : decode cX9_tell 23 = .ok (.bipush 84, 2) := by decide +kernel
theorem dX9_tell_25 : decode cX9_tell 25 = .ok (.iload_n 2, 1) := by decide +kernel
theorem dX9_tell_26 : decode cX9_tell 26 = .ok (.imul, 1) := by decide +kernel
theorem dX9_tell_27 : decode cX9_tell 27 = .ok (.iload_n 3, 1) := by decide +kernel
theorem dX9_tell_28 : decode cX9_tell 28 = .ok (.iadd, 1) := by decide +kernel
theorem dX9_tell_29 : decode cX9_tell 29 = .ok (.iaload, 1) := by decide +kernel
theorem dX9_tell_30 : decode cX9_tell 30 = .ok (.iastore, 1) := by decide +kernel
theorem dX9_tell_31 : decode cX9_tell 31 = .ok (.iinc 3 1, 3) := by decide +kernel
theorem dX9_tell_34 : decode cX9_tell 34 = .ok (.goto (-32), 3) := by decide +kernel
theorem dX9_tell_37 : decode cX9_tell 37 = .ok (.return_, 1) := by decide +kernel
theorem dX9_countAt_0 : decode cX9_countAt 0 = .ok (.lconst 0, 1) := by decide +kernel
theorem dX9_countAt_1 : decode cX9_countAt 1 = .ok (.lstore_n 3, 1) := by decide +kernel
theorem dX9_countAt_2 : decode cX9_countAt 2 = .ok (.iconst 0, 1) := by decide +kernel
theorem dX9_countAt_3 : decode cX9_countAt 3 = .ok (.istore 5, 2) := by decide +kernel
theorem dX9_countAt_5 : decode cX9_countAt 5 = .ok (.iload 5, 2) := by decide +kernel
theorem dX9_countAt_7 : decode cX9_countAt 7 = .ok (.iconst 4, 1) := by decide +kernel
theorem dX9_countAt_8 : decode cX9_countAt 8 = .ok (.if_icmp .ge 28, 3) := by decide +kernel
theorem dX9_countAt_11 : decode cX9_countAt 11 = .ok (.lload_n 3, 1) := by decide +kernel
theorem dX9_countAt_12 : decode cX9_countAt 12 = .ok (.bipush 8, 2) := by decide +kernel
theorem dX9_countAt_14 : decode cX9_countAt 14 = .ok (.lshl, 1) := by decide +kernel
theorem dX9_countAt_15 : decode cX9_countAt 15 = .ok (.aload_n 0, 1) := by decide +kernel
theorem dX9_countAt_16 : decode cX9_countAt 16 = .ok (.iload_n 1, 1) := by decide +kernel
theorem dX9_countAt_17 : decode cX9_countAt 17 = .ok (.iconst 4, 1) := by decide +kernel
theorem dX9_countAt_18 : decode cX9_countAt 18 = .ok (.iadd, 1) := by decide +kernel
theorem dX9_countAt_19 : decode cX9_countAt 19 = .ok (.iconst 4, 1) := by decide +kernel
theorem dX9_countAt_20 : decode cX9_countAt 20 = .ok (.iload_n 2, 1) := by decide +kernel
theorem dX9_countAt_21 : decode cX9_countAt 21 = .ok (.imul, 1) := by decide +kernel
theorem dX9_countAt_22 : decode cX9_countAt 22 = .ok (.iadd, 1) := by decide +kernel
theorem dX9_countAt_23 : decode cX9_countAt 23 = .ok (.iload 5, 2) := by decide +kernel
theorem dX9_countAt_25 : decode cX9_countAt 25 = .ok (.iadd, 1) := by decide +kernel
theorem dX9_countAt_26 : decode cX9_countAt 26 = .ok (.iaload, 1) := by decide +kernel
theorem dX9_countAt_27 : decode cX9_countAt 27 = .ok (.i2l, 1) := by decide +kernel
theorem dX9_countAt_28 : decode cX9_countAt 28 = .ok (.lor, 1) := by decide +kernel
theorem dX9_countAt_29 : decode cX9_countAt 29 = .ok (.lstore_n 3, 1) := by decide +kernel
theorem dX9_countAt_30 : decode cX9_countAt 30 = .ok (.iinc 5 1, 3) := by decide +kernel
theorem dX9_countAt_33 : decode cX9_countAt 33 = .ok (.goto (-28), 3) := by decide +kernel
theorem dX9_countAt_36 : decode cX9_countAt 36 = .ok (.lload_n 3, 1) := by decide +kernel
theorem dX9_countAt_37 : decode cX9_countAt 37 = .ok (.lreturn, 1) := by decide +kernel
set_option maxRecDepth 20000 in
theorem ggX9_isNotAbove_X9_countAt : GoodIn wsX9_isNotAbove wsX9_countAt := goodIn_r _ [4] (by decide +kernel) (by decide +kernel)
set_option maxRecDepth 20000 in
theorem gX9_isNotAbove_X9_countAt : GoodIn wsX9_isNotAbove (va_wsS RX9 173 yX9_countAt wsX9_countAt) := goodIn_app (goodIn_of _ (by decide +kernel)) ggX9_isNotAbove_X9_countAt
theorem dX9_isNotAbove_0 : decode cX9_isNotAbove 0 = .ok (.iconst 1, 1) := by decide +kernel
theorem dX9_isNotAbove_1 : decode cX9_isNotAbove 1 = .ok (.istore_n 3, 1) := by decide +kernel
theorem dX9_isNotAbove_2 : decode cX9_isNotAbove 2 = .ok (.iconst 0, 1) := by decide +kernel
theorem dX9_isNotAbove_3 : decode cX9_isNotAbove 3 = .ok (.istore 4, 2) := by decide +kernel
theorem dX9_isNotAbove_5 : decode cX9_isNotAbove 5 = .ok (.iload 4, 2) := by decide +kernel
theorem dX9_isNotAbove_7 : decode cX9_isNotAbove 7 = .ok (.iconst 4, 1) := by decide +kernel
theorem dX9_isNotAbove_8 : decode cX9_isNotAbove 8 = .ok (.if_icmp .ge 37, 3) := by decide +kernel
theorem dX9_isNotAbove_11 : decode cX9_isNotAbove 11 = .ok (.iload_n 3, 1) := by decide +kernel
theorem dX9_isNotAbove_12 : decode cX9_isNotAbove 12 = .ok (.ifCond .eq 25, 3) := by decide +kernel
theorem dX9_isNotAbove_15 : decode cX9_isNotAbove 15 = .ok (.aload_n 0, 1) := by decide +kernel
theorem dX9_isNotAbove_16 : decode cX9_isNotAbove 16 = .ok (.iload_n 1, 1) := by decide +kernel
theorem dX9_isNotAbove_17 : decode cX9_isNotAbove 17 = .ok (.iload 4, 2) := by decide +kernel
theorem dX9_isNotAbove_19 : decode cX9_isNotAbove 19 = .ok (.invokestatic 173, 3) := by decide +kernel
theorem dX9_isNotAbove_22 : decode cX9_isNotAbove 22 = .ok (.aload_n 0, 1) := by decide +kernel
theorem dX9_isNotAbove_23 : decode cX9_isNotAbove 23 = .ok (.iload_n 2, 1) := by decide +kernel
theorem dX9_isNotAbove_24 : decode cX9_isNotAbove 24 = .ok (.iload 4, 2) := by decide +kernel
theorem dX9_isNotAbove_26 : decode cX9_isNotAbove 26 = .ok (.invokestatic 173, 3) := by decide +kernel
theorem dX9_isNotAbove_29 : decode cX9_isNotAbove 29 = .ok (.lcmp, 1) := by decide +kernel
theorem dX9_isNotAbove_30 : decode cX9_isNotAbove 30 = .ok (.ifCond .gt 7, 3) := by decide +kernel
