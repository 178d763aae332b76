theorem dX9_mix_275 : decode cX9_mix 275 = .ok (.iconst (-1), 1) := by decide +kernel
theorem dX9_mix_276 : decode cX9_mix 276 = .ok (.ixor, 1) := by decide +kernel
theorem dX9_mix_277 : decode cX9_mix 277 = .ok (.iload 8, 2) := by decide +kernel
theorem dX9_mix_279 : decode cX9_mix 279 = .ok (.iand, 1) := by decide +kernel
theorem dX9_mix_280 : decode cX9_mix 280 = .ok (.ixor, 1) := by decide +kernel
theorem dX9_mix_281 : decode cX9_mix 281 = .ok (.iadd, 1) := by decide +kernel
theorem dX9_mix_282 : decode cX9_mix 282 = .ok (.aload_n 0, 1) := by decide +kernel
theorem dX9_mix_283 : decode cX9_mix 283 = .ok (.getfield 71, 3) := by decide +kernel
theorem dX9_mix_286 : decode cX9_mix 286 = .ok (.iload 10, 2) := by decide +kernel
theorem dX9_mix_288 : decode cX9_mix 288 = .ok (.iaload, 1) := by decide +kernel
theorem dX9_mix_289 : decode cX9_mix 289 = .ok (.iadd, 1) := by decide +kernel
theorem dX9_mix_290 : decode cX9_mix 290 = .ok (.aload_n 0, 1) := by decide +kernel
theorem dX9_mix_291 : decode cX9_mix 291 = .ok (.getfield 122, 3) := by decide +kernel
theorem dX9_mix_294 : decode cX9_mix 294 = .ok (.iload 10, 2) := by decide +kernel
theorem dX9_mix_296 : decode cX9_mix 296 = .ok (.iaload, 1) := by decide +kernel
theorem dX9_mix_297 : decode cX9_mix 297 = .ok (.iadd, 1) := by decide +kernel
theorem dX9_mix_298 : decode cX9_mix 298 = .ok (.istore 11, 2) := by decide +kernel
theorem dX9_mix_300 : decode cX9_mix 300 = .ok (.iload_n 2, 1) := by decide +kernel
theorem dX9_mix_301 : decode cX9_mix 301 = .ok (.iconst 2, 1) := by decide +kernel
theorem dX9_mix_302 : decode cX9_mix 302 = .ok (.invokestatic 148, 3) := by decide +kernel
theorem dX9_mix_305 : decode cX9_mix 305 = .ok (.iload_n 2, 1) := by decide +kernel
theorem dX9_mix_306 : decode cX9_mix 306 = .ok (.bipush 13, 2) := by decide +kernel
theorem dX9_mix_308 : decode cX9_mix 308 = .ok (.invokestatic 148, 3) := by decide +kernel
theorem dX9_mix_311 : decode cX9_mix 311 = .ok (.ixor, 1) := by decide +kernel
theorem dX9_mix_312 : decode cX9_mix 312 = .ok (.iload_n 2, 1) := by decide +kernel
theorem dX9_mix_313 : decode cX9_mix 313 = .ok (.bipush 22, 2) := by decide +kernel
theorem dX9_mix_315 : decode cX9_mix 315 = .ok (.invokestatic 148, 3) := by decide +kernel
theorem dX9_mix_318 : decode cX9_mix 318 = .ok (.ixor, 1) := by decide +kernel
theorem dX9_mix_319 : decode cX9_mix 319 = .ok (.iload_n 2, 1) := by decide +kernel
theorem dX9_mix_320 : decode cX9_mix 320 = .ok (.iload_n 3, 1) := by decide +kernel
theorem dX9_mix_321 : decode cX9_mix 321 = .ok (.iand, 1) := by decide +kernel
theorem dX9_mix_322 : decode cX9_mix 322 = .ok (.iload_n 2, 1) := by decide +kernel
theorem dX9_mix_323 : decode cX9_mix 323 = .ok (.iload 4, 2) := by decide +kernel
theorem dX9_mix_325 : decode cX9_mix 325 = .ok (.iand, 1) := by decide +kernel
theorem dX9_mix_326 : decode cX9_mix 326 = .ok (.ixor, 1) := by decide +kernel
theorem dX9_mix_327 : decode cX9_mix 327 = .ok (.iload_n 3, 1) := by decide +kernel
theorem dX9_mix_328 : decode cX9_mix 328 = .ok (.iload 4, 2) := by decide +kernel
theorem dX9_mix_330 : decode cX9_mix 330 = .ok (.iand, 1) := by decide +kernel
theorem dX9_mix_331 : decode cX9_mix 331 = .ok (.ixor, 1) := by decide +kernel
theorem dX9_mix_332 : decode cX9_mix 332 = .ok (.iadd, 1) := by decide +kernel
theorem dX9_mix_333 : decode cX9_mix 333 = .ok (.istore 12, 2) := by decide +kernel
theorem dX9_mix_335 : decode cX9_mix 335 = .ok (.iload 8, 2) := by decide +kernel
theorem dX9_mix_337 : decode cX9_mix 337 = .ok (.istore 9, 2) := by decide +kernel
theorem dX9_mix_339 : decode cX9_mix 339 = .ok (.iload 7, 2) := by decide +kernel
theorem dX9_mix_341 : decode cX9_mix 341 = .ok (.istore 8, 2) := by decide +kernel
theorem dX9_mix_343 : decode cX9_mix 343 = .ok (.iload 6, 2) := by decide +kernel
theorem dX9_mix_345 : decode cX9_mix 345 = .ok (.istore 7, 2) := by decide +kernel
theorem dX9_mix_347 : decode cX9_mix 347 = .ok (.iload 5, 2) := by decide +kernel
theorem dX9_mix_349 : decode cX9_mix 349 = .ok (.iload 11, 2) := by decide +kernel
theorem dX9_mix_351 : decode cX9_mix 351 = .ok (.iadd, 1) := by decide +kernel
theorem dX9_mix_352 : decode cX9_mix 352 = .ok (.istore 6, 2) := by decide +kernel
theorem dX9_mix_354 : decode cX9_mix 354 = .ok (.iload 4, 2) := by decide +kernel
theorem dX9_mix_356 : decode cX9_mix 356 = .ok (.istore 5, 2) := by decide +kernel
theorem dX9_mix_358 : decode cX9_mix 358 = .ok (.iload_n 3, 1) := by decide +kernel
theorem dX9_mix_359 : decode cX9_mix 359 = .ok (.istore 4, 2) := by decide +kernel
theorem dX9_mix_361 : decode cX9_mix 361 = .ok (.iload_n 2, 1) := by decide +kernel
theorem dX9_mix_362 : decode cX9_mix 362 = .ok (.istore_n 3, 1) := by decide +kernel
theorem dX9_mix_363 : decode cX9_mix 363 = .ok (.iload 11, 2) := by decide +kernel
theorem dX9_mix_365 : decode cX9_mix 365 = .ok (.iload 12, 2) := by decide +kernel
theorem dX9_mix_367 : decode cX9_mix 367 = .ok (.iadd, 1) := by decide +kernel
theorem dX9_mix_368 : decode cX9_mix 368 = .ok (.istore_n 2, 1) := by decide +kernel
theorem dX9_mix_369 : decode cX9_mix 369 = .ok (.iinc 10 1, 3) := by decide +kernel
theorem dX9_mix_372 : decode cX9_mix 372 = .ok (.goto (-137), 3) := by decide +kernel
theorem dX9_mix_375 : decode cX9_mix 375 = .ok (.aload_n 0, 1) := by decide +kernel
theorem dX9_mix_376 : decode cX9_mix 376 = .ok (.getfield 125, 3) := by decide +kernel
theorem dX9_mix_379 : decode cX9_mix 379 = .ok (.iconst 0, 1) := by decide +kernel
theorem dX9_mix_380 : decode cX9_mix 380 = .ok (.dup2, 1) := by decide +kernel
theorem dX9_mix_381 : decode cX9_mix 381 = .ok (.iaload, 1) := by decide +kernel
theorem dX9_mix_382 : decode cX9_mix 382 = .ok (.iload_n 2, 1) := by decide +kernel
theorem dX9_mix_383 : decode cX9_mix 383 = .ok (.iadd, 1) := by decide +kernel
theorem dX9_mix_384 : decode cX9_mix 384 = .ok (.iastore, 1) := by decide +kernel
theorem dX9_mix_385 : decode cX9_mix 385 = .ok (.aload_n 0, 1) := by decide +kernel
theorem dX9_mix_386 : decode cX9_mix 386 = .ok (.getfield 125, 3) := by decide +kernel
theorem dX9_mix_389 : decode cX9_mix 389 = .ok (.iconst 1, 1) := by decide +kernel
theorem dX9_mix_390 : decode cX9_mix 390 = .ok (.dup2, 1) := by decide +kernel
theorem dX9_mix_391 : decode cX9_mix 391 = .ok (.iaload, 1) := by decide +kernel
theorem dX9_mix_392 : decode cX9_mix 392 = .ok (.iload_n 3, 1) := by decide +kernel
theorem dX9_mix_393 : decode cX9_mix 393 = .ok (.iadd, 1) := by decide +kernel
theorem dX9_mix_394 : decode cX9_mix 394 = .ok (.iastore, 1) := by decide +kernel
theorem dX9_mix_395 : decode cX9_mix 395 = .ok (.aload_n 0, 1) := by decide +kernel
theorem dX9_mix_396 : decode cX9_mix 396 = .ok (.getfield 125, 3) := by decide +kernel
theorem dX9_mix_399 : decode cX9_mix 399 = .ok (.iconst 2, 1) := by decide +kernel
theorem dX9_mix_400 : decode cX9_mix 400 = .ok (.dup2, 1) := by decide +kernel
theorem dX9_mix_401 : decode cX9_mix 401 = .ok (.iaload, 1) := by decide +kernel
theorem dX9_mix_402 : decode cX9_mix 402 = .ok (.iload 4, 2) := by decide +kernel
theorem dX9_mix_404 : decode cX9_mix 404 = .ok (.iadd, 1) := by decide +kernel
theorem dX9_mix_405 : decode cX9_mix 405 = .ok (.iastore, 1) := by decide +kernel
theorem dX9_mix_406 : decode cX9_mix 406 = .ok (.aload_n 0, 1) := by decide +kernel
theorem dX9_mix_407 : decode cX9_mix 407 = .ok (.getfield 125, 3) := by decide +kernel
theorem dX9_mix_410 : decode cX9_mix 410 = .ok (.iconst 3, 1) := by decide +kernel
theorem dX9_mix_411 : decode cX9_mix 411 = .ok (.dup2, 1) := by decide +kernel
theorem dX9_mix_412 : decode cX9_mix 412 = .ok (.iaload, 1) := by decide +kernel
theorem dX9_mix_413 : decode cX9_mix 413 = .ok (.iload 5, 2) := by decide +kernel
theorem dX9_mix_415 : decode cX9_mix 415 = .ok (.iadd, 1) := by decide +kernel
theorem dX9_mix_416 : decode cX9_mix 416 = .ok (.iastore, 1) := by decide +kernel
theorem dX9_mix_417 : decode cX9_mix 417 = .ok (.aload_n 0, 1) := by decide +kernel
theorem dX9_mix_418 : decode cX9_mix 418 = .ok (.getfield 125, 3) := by decide +kernel
theorem dX9_mix_421 : decode cX9_mix 421 = .ok (.iconst 4, 1) := by decide +kernel
theorem dX9_mix_422 : decode cX9_mix 422 = .ok (.dup2, 1) := by decide +kernel
theorem dX9_mix_423 : decode cX9_mix 423 = .ok (.iaload, 1) := by decide +kernel
theorem dX9_mix_424 : decode cX9_mix 424 = .ok (.iload 6, 2) := by decide +kernel
theorem dX9_mix_426 : decode cX9_mix 426 = .ok (.iadd, 1) := by decide +kernel
theorem dX9_mix_427 : decode cX9_mix 427 = .ok (.iastore, 1) := by decide +kernel
theorem dX9_mix_428 : decode cX9_mix 428 = .ok (.aload_n 0, 1) := by decide +kernel
theorem dX9_mix_429 : decode cX9_mix 429 = .ok (.getfield 125, 3) := by decide +kernel
theorem dX9_mix_432 : decode cX9_mix 432 = .ok (.iconst 5, 1) := by decide +kernel
theorem dX9_mix_433 : decode cX9_mix 433 = .ok (.dup2, 1) := by decide +kernel
theorem dX9_mix_434 : decode cX9_mix 434 = .ok (.iaload, 1) := by decide +kernel
theorem dX9_mix_435 : decode cX9_mix 435 = .ok (.iload 7, 2) := by decide +kernel
theorem dX9_mix_437 : decode cX9_mix 437 = .ok (.iadd, 1) := by decide +kernel
theorem dX9_mix_438 : decode cX9_mix 438 = .ok (.iastore, 1) := by decide +kernel
theorem dX9_mix_439 : decode cX9_mix 439 = .ok (.aload_n 0, 1) := by decide +kernel
theorem dX9_mix_440 : decode cX9_mix 440 = .ok (.getfield 125, 3) := by decide +kernel
theorem dX9_mix_443 : decode cX9_mix 443 = .ok (.bipush 6, 2) := by decide +kernel
theorem dX9_mix_445 : decode cX9_mix 445 = .ok (.dup2, 1) := by decide +kernel
theorem dX9_mix_446 : decode cX9_mix 446 = .ok (.iaload, 1) := by decide +kernel
theorem dX9_mix_447 : decode cX9_mix 447 = .ok (.iload 8, 2) := by decide +kernel
theorem dX9_mix_449 : decode cX9_mix 449 = .ok (.iadd, 1) := by decide +kernel
theorem dX9_mix_450 : decode cX9_mix 450 = .ok (.iastore, 1) := by decide +kernel
theorem dX9_mix_451 : decode cX9_mix 451 = .ok (.aload_n 0, 1) := by decide +kernel
theorem dX9_mix_452 : decode cX9_mix 452 = .ok (.getfield 125, 3) := by decide +kernel
theorem dX9_mix_455 : decode cX9_mix 455 = .ok (.bipush 7, 2) := by decide +kernel
theorem dX9_mix_457 : decode cX9_mix 457 = .ok (.dup2, 1) := by decide +kernel
theorem dX9_mix_458 : decode cX9_mix 458 = .ok (.iaload, 1) := by decide +kernel
theorem dX9_mix_459 : decode cX9_mix 459 = .ok (.iload 9, 2) := by decide +kernel
theorem dX9_mix_461 : decode cX9_mix 461 = .ok (.iadd, 1) := by decide +kernel
theorem dX9_mix_462 : decode cX9_mix 462 = .ok (.iastore, 1) := by decide +kernel
theorem dX9_mix_463 : decode cX9_mix 463 = .ok (.return_, 1) := by decide +kernel
set_option maxRecDepth 20000 in
theorem ggX9_hash_X9_add : GoodIn wsX9_hash wsX9_add := goodIn_r _ [9, 10, 1, 20, 21, 22, 23, 24, 25, 26, 27, 28, 29, 30, 31, 32, 33, 34, 35, 36, 37, 38, 39, 40, 41, 42] (by decide +kernel) (by decide +kernel)
set_option maxRecDepth 20000 in
theorem gX9_hash_X9_add : GoodIn wsX9_hash (wsV RX9 152 RX9 yX9_add wsX9_add) := goodIn_app (goodIn_of _ (by decide +kernel)) ggX9_hash_X9_add
set_option maxRecDepth 20000 in
theorem ggX9_hash_X9_mix : GoodIn wsX9_hash wsX9_mix := goodIn_r _ [14, 15, 10, 2, 16, 17, 18, 8, 19, 20, 21, 22, 23, 24, 25, 26, 27, 28, 29, 30, 31, 32, 33, 34, 35, 36, 37, 38, 39, 40, 41, 42] (by decide +kernel) (by decide +kernel)
set_option maxRecDepth 20000 in
theorem gX9_hash_X9_mix : GoodIn wsX9_hash (wsV RX9 155 RX9 yX9_mix wsX9_mix) := goodIn_app (goodIn_of _ (by decide +kernel)) ggX9_hash_X9_mix
theorem dX9_hash_0 : decode cX9_hash 0 = .ok (.bipush 8, 2) := by decide +kernel
theorem dX9_hash_2 : decode cX9_hash 2 = .ok (.aload_n 0, 1) := by decide +kernel
theorem dX9_hash_3 : decode cX9_hash 3 = .ok (.getfield 145, 3) := by decide +kernel
theorem dX9_hash_6 : decode cX9_hash 6 = .ok (.imul, 1) := by decide +kernel
theorem dX9_hash_7 : decode cX9_hash 7 = .ok (.istore_n 1, 1) := by decide +kernel
theorem dX9_hash_8 : decode cX9_hash 8 = .ok (.aload_n 0, 1) := by decide +kernel
theorem dX9_hash_9 : decode cX9_hash 9 = .ok (.sipush 128, 3) := by decide +kernel
theorem dX9_hash_12 : decode cX9_hash 12 = .ok (.invokevirtual 152, 3) := by decide +kernel
theorem dX9_hash_15 : decode cX9_hash 15 = .ok (.aload_n 0, 1) := by decide +kernel
theorem dX9_hash_16 : decode cX9_hash 16 = .ok (.getfield 145, 3) := by decide +kernel
theorem dX9_hash_19 : decode cX9_hash 19 = .ok (.bipush 64, 2) := by decide +kernel
theorem dX9_hash_21 : decode cX9_hash 21 = .ok (.irem, 1) := by decide +kernel
theorem dX9_hash_22 : decode cX9_hash 22 = .ok (.bipush 56, 2) := by decide +kernel
theorem dX9_hash_24 : decode cX9_hash 24 = .ok (.if_icmp .eq 11, 3) := by decide +kernel
theorem dX9_hash_27 : decode cX9_hash 27 = .ok (.aload_n 0, 1) := by decide +kernel
theorem dX9_hash_28 : decode cX9_hash 28 = .ok (.iconst 0, 1) := by decide +kernel
theorem dX9_hash_29 : decode cX9_hash 29 = .ok (.invokevirtual 152, 3) := by decide +kernel
theorem dX9_hash_32 : decode cX9_hash 32 = .ok (.goto (-17), 3) := by decide +kernel
theorem dX9_hash_35 : decode cX9_hash 35 = .ok (.iconst 0, 1) := by decide +kernel
theorem dX9_hash_36 : decode cX9_hash 36 = .ok (.istore_n 2, 1) := by decide +kernel
theorem dX9_hash_37 : decode cX9_hash 37 = .ok (.iload_n 2, 1) := by decide +kernel
theorem dX9_hash_38 : decode cX9_hash 38 = .ok (.iconst 4, 1) := by decide +kernel
theorem dX9_hash_39 : decode cX9_hash 39 = .ok (.if_icmp .ge 14, 3) := by decide +kernel
theorem dX9_hash_42 : decode cX9_hash 42 = .ok (.aload_n 0, 1) := by decide +kernel
theorem dX9_hash_43 : decode cX9_hash 43 = .ok (.iconst 0, 1) := by decide +kernel
theorem dX9_hash_44 : decode cX9_hash 44 = .ok (.invokevirtual 152, 3) := by decide +kernel
theorem dX9_hash_47 : decode cX9_hash 47 = .ok (.iinc 2 1, 3) := by decide +kernel
theorem dX9_hash_50 : decode cX9_hash 50 = .ok (.goto (-13), 3) := by decide +kernel
theorem dX9_hash_53 : decode cX9_hash 53 = .ok (.aload_n 0, 1) := by decide +kernel
theorem dX9_hash_54 : decode cX9_hash 54 = .ok (.iload_n 1, 1) := by decide +kernel
theorem dX9_hash_55 : decode cX9_hash 55 = .ok (.bipush 24, 2) := by decide +kernel
theorem dX9_hash_57 : decode cX9_hash 57 = .ok (.ishr, 1) := by decide +kernel
theorem dX9_hash_58 : decode cX9_hash 58 = .ok (.invokevirtual 152, 3) := by decide +kernel
theorem dX9_hash_61 : decode cX9_hash 61 = .ok (.aload_n 0, 1) := by decide +kernel
theorem dX9_hash_62 : decode cX9_hash 62 = .ok (.iload_n 1, 1) := by decide +kernel
theorem dX9_hash_63 : decode cX9_hash 63 = .ok (.bipush 16, 2) := by decide +kernel
theorem dX9_hash_65 : decode cX9_hash 65 = .ok (.ishr, 1) := by decide +kernel
theorem dX9_hash_66 : decode cX9_hash 66 = .ok (.invokevirtual 152, 3) := by decide +kernel
theorem dX9_hash_69 : decode cX9_hash 69 = .ok (.aload_n 0, 1) := by decide +kernel
theorem dX9_hash_70 : decode cX9_hash 70 = .ok (.iload_n 1, 1) := by decide +kernel
theorem dX9_hash_71 : decode cX9_hash 71 = .ok (.bipush 8, 2) := by decide +kernel
theorem dX9_hash_73 : decode cX9_hash 73 = .ok (.ishr, 1) := by decide +kernel
theorem dX9_hash_74 : decode cX9_hash 74 = .ok (.invokevirtual 152, 3) := by decide +kernel
theorem dX9_hash_77 : decode cX9_hash 77 = .ok (.aload_n 0, 1) := by decide +kernel
theorem dX9_hash_78 : decode cX9_hash 78 = .ok (.iload_n 1, 1) := by decide +kernel
theorem dX9_hash_79 : decode cX9_hash 79 = .ok (.invokevirtual 152, 3) := by decide +kernel
theorem dX9_hash_82 : decode cX9_hash 82 = .ok (.iconst 0, 1) := by decide +kernel
theorem dX9_hash_83 : decode cX9_hash 83 = .ok (.istore_n 2, 1) := by decide +kernel
theorem dX9_hash_84 : decode cX9_hash 84 = .ok (.iload_n 2, 1) := by decide +kernel
theorem dX9_hash_85 : decode cX9_hash 85 = .ok (.bipush 8, 2) := by decide +kernel
theorem dX9_hash_87 : decode cX9_hash 87 = .ok (.if_icmp .ge 21, 3) := by decide +kernel
theorem dX9_hash_90 : decode cX9_hash 90 = .ok (.aload_n 0, 1) := by decide +kernel
theorem dX9_hash_91 : decode cX9_hash 91 = .ok (.getfield 125, 3) := by decide +kernel
theorem dX9_hash_94 : decode cX9_hash 94 = .ok (.iload_n 2, 1) := by decide +kernel
theorem dX9_hash_95 : decode cX9_hash 95 = .ok (.aload_n 0, 1) := by decide +kernel
theorem dX9_hash_96 : decode cX9_hash 96 = .ok (.getfield 85, 3) := by decide +kernel
theorem dX9_hash_99 : decode cX9_hash 99 = .ok (.iload_n 2, 1) := by decide +kernel
theorem dX9_hash_100 : decode cX9_hash 100 = .ok (.iaload, 1) := by decide +kernel
theorem dX9_hash_101 : decode cX9_hash 101 = .ok (.iastore, 1) := by decide +kernel
theorem dX9_hash_102 : decode cX9_hash 102 = .ok (.iinc 2 1, 3) := by decide +kernel
theorem dX9_hash_105 : decode cX9_hash 105 = .ok (.goto (-21), 3) := by decide +kernel
theorem dX9_hash_108 : decode cX9_hash 108 = .ok (.iconst 0, 1) := by decide +kernel
theorem dX9_hash_109 : decode cX9_hash 109 = .ok (.istore_n 2, 1) := by decide +kernel
theorem dX9_hash_110 : decode cX9_hash 110 = .ok (.iload_n 2, 1) := by decide +kernel
theorem dX9_hash_111 : decode cX9_hash 111 = .ok (.aload_n 0, 1) := by decide +kernel
theorem dX9_hash_112 : decode cX9_hash 112 = .ok (.getfield 145, 3) := by decide +kernel
theorem dX9_hash_115 : decode cX9_hash 115 = .ok (.if_icmp .ge 14, 3) := by decide +kernel
theorem dX9_hash_118 : decode cX9_hash 118 = .ok (.aload_n 0, 1) := by decide +kernel
