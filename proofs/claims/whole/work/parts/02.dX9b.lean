theorem dX9_init_286 : decode cX9_init 286 = .ok (.bipush 47, 2) := by decide +kernel
theorem dX9_init_288 : decode cX9_init 288 = .ok (.ldc 54, 2) := by decide +kernel
theorem dX9_init_290 : decode cX9_init 290 = .ok (.iastore, 1) := by decide +kernel
theorem dX9_init_291 : decode cX9_init 291 = .ok (.dup, 1) := by decide +kernel
theorem dX9_init_292 : decode cX9_init 292 = .ok (.bipush 48, 2) := by decide +kernel
theorem dX9_init_294 : decode cX9_init 294 = .ok (.ldc 55, 2) := by decide +kernel
theorem dX9_init_296 : decode cX9_init 296 = .ok (.iastore, 1) := by decide +kernel
theorem dX9_init_297 : decode cX9_init 297 = .ok (.dup, 1) := by decide +kernel
theorem dX9_init_298 : decode cX9_init 298 = .ok (.bipush 49, 2) := by decide +kernel
theorem dX9_init_300 : decode cX9_init 300 = .ok (.ldc 56, 2) := by decide +kernel
theorem dX9_init_302 : decode cX9_init 302 = .ok (.iastore, 1) := by decide +kernel
theorem dX9_init_303 : decode cX9_init 303 = .ok (.dup, 1) := by decide +kernel
theorem dX9_init_304 : decode cX9_init 304 = .ok (.bipush 50, 2) := by decide +kernel
theorem dX9_init_306 : decode cX9_init 306 = .ok (.ldc 57, 2) := by decide +kernel
theorem dX9_init_308 : decode cX9_init 308 = .ok (.iastore, 1) := by decide +kernel
theorem dX9_init_309 : decode cX9_init 309 = .ok (.dup, 1) := by decide +kernel
theorem dX9_init_310 : decode cX9_init 310 = .ok (.bipush 51, 2) := by decide +kernel
theorem dX9_init_312 : decode cX9_init 312 = .ok (.ldc 58, 2) := by decide +kernel
theorem dX9_init_314 : decode cX9_init 314 = .ok (.iastore, 1) := by decide +kernel
theorem dX9_init_315 : decode cX9_init 315 = .ok (.dup, 1) := by decide +kernel
theorem dX9_init_316 : decode cX9_init 316 = .ok (.bipush 52, 2) := by decide +kernel
theorem dX9_init_318 : decode cX9_init 318 = .ok (.ldc 59, 2) := by decide +kernel
theorem dX9_init_320 : decode cX9_init 320 = .ok (.iastore, 1) := by decide +kernel
theorem dX9_init_321 : decode cX9_init 321 = .ok (.dup, 1) := by decide +kernel
theorem dX9_init_322 : decode cX9_init 322 = .ok (.bipush 53, 2) := by decide +kernel
theorem dX9_init_324 : decode cX9_init 324 = .ok (.ldc 60, 2) := by decide +kernel
theorem dX9_init_326 : decode cX9_init 326 = .ok (.iastore, 1) := by decide +kernel
theorem dX9_init_327 : decode cX9_init 327 = .ok (.dup, 1) := by decide +kernel
theorem dX9_init_328 : decode cX9_init 328 = .ok (.bipush 54, 2) := by decide +kernel
theorem dX9_init_330 : decode cX9_init 330 = .ok (.ldc 61, 2) := by decide +kernel
theorem dX9_init_332 : decode cX9_init 332 = .ok (.iastore, 1) := by decide +kernel
theorem dX9_init_333 : decode cX9_init 333 = .ok (.dup, 1) := by decide +kernel
theorem dX9_init_334 : decode cX9_init 334 = .ok (.bipush 55, 2) := by decide +kernel
theorem dX9_init_336 : decode cX9_init 336 = .ok (.ldc 62, 2) := by decide +kernel
theorem dX9_init_338 : decode cX9_init 338 = .ok (.iastore, 1) := by decide +kernel
theorem dX9_init_339 : decode cX9_init 339 = .ok (.dup, 1) := by decide +kernel
theorem dX9_init_340 : decode cX9_init 340 = .ok (.bipush 56, 2) := by decide +kernel
theorem dX9_init_342 : decode cX9_init 342 = .ok (.ldc 63, 2) := by decide +kernel
theorem dX9_init_344 : decode cX9_init 344 = .ok (.iastore, 1) := by decide +kernel
theorem dX9_init_345 : decode cX9_init 345 = .ok (.dup, 1) := by decide +kernel
theorem dX9_init_346 : decode cX9_init 346 = .ok (.bipush 57, 2) := by decide +kernel
theorem dX9_init_348 : decode cX9_init 348 = .ok (.ldc 64, 2) := by decide +kernel
theorem dX9_init_350 : decode cX9_init 350 = .ok (.iastore, 1) := by decide +kernel
theorem dX9_init_351 : decode cX9_init 351 = .ok (.dup, 1) := by decide +kernel
theorem dX9_init_352 : decode cX9_init 352 = .ok (.bipush 58, 2) := by decide +kernel
theorem dX9_init_354 : decode cX9_init 354 = .ok (.ldc 65, 2) := by decide +kernel
theorem dX9_init_356 : decode cX9_init 356 = .ok (.iastore, 1) := by decide +kernel
theorem dX9_init_357 : decode cX9_init 357 = .ok (.dup, 1) := by decide +kernel
theorem dX9_init_358 : decode cX9_init 358 = .ok (.bipush 59, 2) := by decide +kernel
theorem dX9_init_360 : decode cX9_init 360 = .ok (.ldc 66, 2) := by decide +kernel
theorem dX9_init_362 : decode cX9_init 362 = .ok (.iastore, 1) := by decide +kernel
theorem dX9_init_363 : decode cX9_init 363 = .ok (.dup, 1) := by decide +kernel
theorem dX9_init_364 : decode cX9_init 364 = .ok (.bipush 60, 2) := by decide +kernel
theorem dX9_init_366 : decode cX9_init 366 = .ok (.ldc 67, 2) := by decide +kernel
theorem dX9_init_368 : decode cX9_init 368 = .ok (.iastore, 1) := by decide +kernel
theorem dX9_init_369 : decode cX9_init 369 = .ok (.dup, 1) := by decide +kernel
theorem dX9_init_370 : decode cX9_init 370 = .ok (.bipush 61, 2) := by decide +kernel
theorem dX9_init_372 : decode cX9_init 372 = .ok (.ldc 68, 2) := by decide +kernel
theorem dX9_init_374 : decode cX9_init 374 = .ok (.iastore, 1) := by decide +kernel
theorem dX9_init_375 : decode cX9_init 375 = .ok (.dup, 1) := by decide +kernel
theorem dX9_init_376 : decode cX9_init 376 = .ok (.bipush 62, 2) := by decide +kernel
theorem dX9_init_378 : decode cX9_init 378 = .ok (.ldc 69, 2) := by decide +kernel
theorem dX9_init_380 : decode cX9_init 380 = .ok (.iastore, 1) := by decide +kernel
theorem dX9_init_381 : decode cX9_init 381 = .ok (.dup, 1) := by decide +kernel
theorem dX9_init_382 : decode cX9_init 382 = .ok (.bipush 63, 2) := by decide +kernel
theorem dX9_init_384 : decode cX9_init 384 = .ok (.ldc 70, 2) := by decide +kernel
theorem dX9_init_386 : decode cX9_init 386 = .ok (.iastore, 1) := by decide +kernel
theorem dX9_init_387 : decode cX9_init 387 = .ok (.putfield 71, 3) := by decide +kernel
theorem dX9_init_390 : decode cX9_init 390 = .ok (.aload_n 0, 1) := by decide +kernel
theorem dX9_init_391 : decode cX9_init 391 = .ok (.bipush 8, 2) := by decide +kernel
theorem dX9_init_393 : decode cX9_init 393 = .ok (.newarray .int, 2) := by decide +kernel
theorem dX9_init_395 : decode cX9_init 395 = .ok (.dup, 1) := by decide +kernel
theorem dX9_init_396 : decode cX9_init 396 = .ok (.iconst 0, 1) := by decide +kernel
theorem dX9_init_397 : decode cX9_init 397 = .ok (.ldc 77, 2) := by decide +kernel
theorem dX9_init_399 : decode cX9_init 399 = .ok (.iastore, 1) := by decide +kernel
theorem dX9_init_400 : decode cX9_init 400 = .ok (.dup, 1) := by decide +kernel
theorem dX9_init_401 : decode cX9_init 401 = .ok (.iconst 1, 1) := by decide +kernel
theorem dX9_init_402 : decode cX9_init 402 = .ok (.ldc 78, 2) := by decide +kernel
theorem dX9_init_404 : decode cX9_init 404 = .ok (.iastore, 1) := by decide +kernel
theorem dX9_init_405 : decode cX9_init 405 = .ok (.dup, 1) := by decide +kernel
theorem dX9_init_406 : decode cX9_init 406 = .ok (.iconst 2, 1) := by decide +kernel
theorem dX9_init_407 : decode cX9_init 407 = .ok (.ldc 79, 2) := by decide +kernel
theorem dX9_init_409 : decode cX9_init 409 = .ok (.iastore, 1) := by decide +kernel
theorem dX9_init_410 : decode cX9_init 410 = .ok (.dup, 1) := by decide +kernel
theorem dX9_init_411 : decode cX9_init 411 = .ok (.iconst 3, 1) := by decide +kernel
theorem dX9_init_412 : decode cX9_init 412 = .ok (.ldc 80, 2) := by decide +kernel
theorem dX9_init_414 : decode cX9_init 414 = .ok (.iastore, 1) := by decide +kernel
theorem dX9_init_415 : decode cX9_init 415 = .ok (.dup, 1) := by decide +kernel
theorem dX9_init_416 : decode cX9_init 416 = .ok (.iconst 4, 1) := by decide +kernel
theorem dX9_init_417 : decode cX9_init 417 = .ok (.ldc 81, 2) := by decide +kernel
theorem dX9_init_419 : decode cX9_init 419 = .ok (.iastore, 1) := by decide +kernel
theorem dX9_init_420 : decode cX9_init 420 = .ok (.dup, 1) := by decide +kernel
theorem dX9_init_421 : decode cX9_init 421 = .ok (.iconst 5, 1) := by decide +kernel
theorem dX9_init_422 : decode cX9_init 422 = .ok (.ldc 82, 2) := by decide +kernel
theorem dX9_init_424 : decode cX9_init 424 = .ok (.iastore, 1) := by decide +kernel
theorem dX9_init_425 : decode cX9_init 425 = .ok (.dup, 1) := by decide +kernel
theorem dX9_init_426 : decode cX9_init 426 = .ok (.bipush 6, 2) := by decide +kernel
theorem dX9_init_428 : decode cX9_init 428 = .ok (.ldc 83, 2) := by decide +kernel
theorem dX9_init_430 : decode cX9_init 430 = .ok (.iastore, 1) := by decide +kernel
theorem dX9_init_431 : decode cX9_init 431 = .ok (.dup, 1) := by decide +kernel
theorem dX9_init_432 : decode cX9_init 432 = .ok (.bipush 7, 2) := by decide +kernel
theorem dX9_init_434 : decode cX9_init 434 = .ok (.ldc 84, 2) := by decide +kernel
theorem dX9_init_436 : decode cX9_init 436 = .ok (.iastore, 1) := by decide +kernel
theorem dX9_init_437 : decode cX9_init 437 = .ok (.putfield 85, 3) := by decide +kernel
theorem dX9_init_440 : decode cX9_init 440 = .ok (.aload_n 0, 1) := by decide +kernel
theorem dX9_init_441 : decode cX9_init 441 = .ok (.sipush 2016, 3) := by decide +kernel
theorem dX9_init_444 : decode cX9_init 444 = .ok (.newarray .int, 2) := by decide +kernel
theorem dX9_init_446 : decode cX9_init 446 = .ok (.putfield 88, 3) := by decide +kernel
theorem dX9_init_449 : decode cX9_init 449 = .ok (.aload_n 0, 1) := by decide +kernel
theorem dX9_init_450 : decode cX9_init 450 = .ok (.sipush 336, 3) := by decide +kernel
theorem dX9_init_453 : decode cX9_init 453 = .ok (.newarray .int, 2) := by decide +kernel
theorem dX9_init_455 : decode cX9_init 455 = .ok (.putfield 91, 3) := by decide +kernel
theorem dX9_init_458 : decode cX9_init 458 = .ok (.aload_n 0, 1) := by decide +kernel
theorem dX9_init_459 : decode cX9_init 459 = .ok (.sipush 1152, 3) := by decide +kernel
theorem dX9_init_462 : decode cX9_init 462 = .ok (.newarray .int, 2) := by decide +kernel
theorem dX9_init_464 : decode cX9_init 464 = .ok (.putfield 94, 3) := by decide +kernel
theorem dX9_init_467 : decode cX9_init 467 = .ok (.aload_n 0, 1) := by decide +kernel
theorem dX9_init_468 : decode cX9_init 468 = .ok (.bipush 96, 2) := by decide +kernel
theorem dX9_init_470 : decode cX9_init 470 = .ok (.newarray .int, 2) := by decide +kernel
theorem dX9_init_472 : decode cX9_init 472 = .ok (.putfield 97, 3) := by decide +kernel
theorem dX9_init_475 : decode cX9_init 475 = .ok (.aload_n 0, 1) := by decide +kernel
theorem dX9_init_476 : decode cX9_init 476 = .ok (.iconst 1, 1) := by decide +kernel
theorem dX9_init_477 : decode cX9_init 477 = .ok (.putfield 100, 3) := by decide +kernel
theorem dX9_init_480 : decode cX9_init 480 = .ok (.aload_n 0, 1) := by decide +kernel
theorem dX9_init_481 : decode cX9_init 481 = .ok (.iconst 4, 1) := by decide +kernel
theorem dX9_init_482 : decode cX9_init 482 = .ok (.newarray .int, 2) := by decide +kernel
theorem dX9_init_484 : decode cX9_init 484 = .ok (.putfield 104, 3) := by decide +kernel
theorem dX9_init_487 : decode cX9_init 487 = .ok (.aload_n 0, 1) := by decide +kernel
theorem dX9_init_488 : decode cX9_init 488 = .ok (.bipush 64, 2) := by decide +kernel
theorem dX9_init_490 : decode cX9_init 490 = .ok (.newarray .int, 2) := by decide +kernel
theorem dX9_init_492 : decode cX9_init 492 = .ok (.putfield 107, 3) := by decide +kernel
theorem dX9_init_495 : decode cX9_init 495 = .ok (.aload_n 0, 1) := by decide +kernel
theorem dX9_init_496 : decode cX9_init 496 = .ok (.bipush 12, 2) := by decide +kernel
theorem dX9_init_498 : decode cX9_init 498 = .ok (.newarray .int, 2) := by decide +kernel
theorem dX9_init_500 : decode cX9_init 500 = .ok (.putfield 110, 3) := by decide +kernel
theorem dX9_init_503 : decode cX9_init 503 = .ok (.aload_n 0, 1) := by decide +kernel
theorem dX9_init_504 : decode cX9_init 504 = .ok (.sipush 256, 3) := by decide +kernel
theorem dX9_init_507 : decode cX9_init 507 = .ok (.newarray .int, 2) := by decide +kernel
theorem dX9_init_509 : decode cX9_init 509 = .ok (.putfield 113, 3) := by decide +kernel
theorem dX9_init_512 : decode cX9_init 512 = .ok (.aload_n 0, 1) := by decide +kernel
theorem dX9_init_513 : decode cX9_init 513 = .ok (.bipush 32, 2) := by decide +kernel
theorem dX9_init_515 : decode cX9_init 515 = .ok (.newarray .int, 2) := by decide +kernel
theorem dX9_init_517 : decode cX9_init 517 = .ok (.putfield 116, 3) := by decide +kernel
theorem dX9_init_520 : decode cX9_init 520 = .ok (.aload_n 0, 1) := by decide +kernel
theorem dX9_init_521 : decode cX9_init 521 = .ok (.bipush 32, 2) := by decide +kernel
theorem dX9_init_523 : decode cX9_init 523 = .ok (.newarray .int, 2) := by decide +kernel
theorem dX9_init_525 : decode cX9_init 525 = .ok (.putfield 119, 3) := by decide +kernel
theorem dX9_init_528 : decode cX9_init 528 = .ok (.aload_n 0, 1) := by decide +kernel
theorem dX9_init_529 : decode cX9_init 529 = .ok (.bipush 64, 2) := by decide +kernel
theorem dX9_init_531 : decode cX9_init 531 = .ok (.newarray .int, 2) := by decide +kernel
theorem dX9_init_533 : decode cX9_init 533 = .ok (.putfield 122, 3) := by decide +kernel
theorem dX9_init_536 : decode cX9_init 536 = .ok (.aload_n 0, 1) := by decide +kernel
theorem dX9_init_537 : decode cX9_init 537 = .ok (.bipush 8, 2) := by decide +kernel
theorem dX9_init_539 : decode cX9_init 539 = .ok (.newarray .int, 2) := by decide +kernel
theorem dX9_init_541 : decode cX9_init 541 = .ok (.putfield 125, 3) := by decide +kernel
theorem dX9_init_544 : decode cX9_init 544 = .ok (.aload_n 0, 1) := by decide +kernel
theorem dX9_init_545 : decode cX9_init 545 = .ok (.sipush 512, 3) := by decide +kernel
theorem dX9_init_548 : decode cX9_init 548 = .ok (.newarray .int, 2) := by decide +kernel
theorem dX9_init_550 : decode cX9_init 550 = .ok (.putfield 128, 3) := by decide +kernel
theorem dX9_init_553 : decode cX9_init 553 = .ok (.aload_n 0, 1) := by decide +kernel
theorem dX9_init_554 : decode cX9_init 554 = .ok (.bipush 64, 2) := by decide +kernel
theorem dX9_init_556 : decode cX9_init 556 = .ok (.newarray .int, 2) := by decide +kernel
theorem dX9_init_558 : decode cX9_init 558 = .ok (.putfield 131, 3) := by decide +kernel
theorem dX9_init_561 : decode cX9_init 561 = .ok (.aload_n 0, 1) := by decide +kernel
theorem dX9_init_562 : decode cX9_init 562 = .ok (.iconst 0, 1) := by decide +kernel
theorem dX9_init_563 : decode cX9_init 563 = .ok (.invokevirtual 134, 3) := by decide +kernel
theorem dX9_init_566 : decode cX9_init 566 = .ok (.iconst 0, 1) := by decide +kernel
theorem dX9_init_567 : decode cX9_init 567 = .ok (.istore_n 1, 1) := by decide +kernel
theorem dX9_init_568 : decode cX9_init 568 = .ok (.iload_n 1, 1) := by decide +kernel
theorem dX9_init_569 : decode cX9_init 569 = .ok (.iconst 4, 1) := by decide +kernel
theorem dX9_init_570 : decode cX9_init 570 = .ok (.if_icmp .ge 54, 3) := by decide +kernel
theorem dX9_init_573 : decode cX9_init 573 = .ok (.iconst 0, 1) := by decide +kernel
theorem dX9_init_574 : decode cX9_init 574 = .ok (.istore_n 2, 1) := by decide +kernel
theorem dX9_init_575 : decode cX9_init 575 = .ok (.iload_n 2, 1) := by decide +kernel
theorem dX9_init_576 : decode cX9_init 576 = .ok (.bipush 84, 2) := by decide +kernel
theorem dX9_init_578 : decode cX9_init 578 = .ok (.if_icmp .ge 29, 3) := by decide +kernel
theorem dX9_init_581 : decode cX9_init 581 = .ok (.aload_n 0, 1) := by decide +kernel
theorem dX9_init_582 : decode cX9_init 582 = .ok (.getfield 91, 3) := by decide +kernel
theorem dX9_init_585 : decode cX9_init 585 = .ok (.bipush 84, 2) := by decide +kernel
theorem dX9_init_587 : decode cX9_init 587 = .ok (.iload_n 1, 1) := by decide +kernel
theorem dX9_init_588 : decode cX9_init 588 = .ok (.imul, 1) := by decide +kernel
theorem dX9_init_589 : decode cX9_init 589 = .ok (.iload_n 2, 1) := by decide +kernel
theorem dX9_init_590 : decode cX9_init 590 = .ok (.iadd, 1) := by decide +kernel
theorem dX9_init_591 : decode cX9_init 591 = .ok (.iload_n 2, 1) := by decide +kernel
theorem dX9_init_592 : decode cX9_init 592 = .ok (.ifCond .ne 7, 3) := by decide +kernel
theorem dX9_init_595 : decode cX9_init 595 = .ok (.iload_n 1, 1) := by decide +kernel
theorem dX9_init_596 : decode cX9_init 596 = .ok (.goto 4, 3) := by decide +kernel
theorem dX9_init_599 : decode cX9_init 599 = .ok (.iconst 0, 1) := by decide +kernel
theorem dX9_init_600 : decode cX9_init 600 = .ok (.iastore, 1) := by decide +kernel
theorem dX9_init_601 : decode cX9_init 601 = .ok (.iinc 2 1, 3) := by decide +kernel
theorem dX9_init_604 : decode cX9_init 604 = .ok (.goto (-29), 3) := by decide +kernel
theorem dX9_init_607 : decode cX9_init 607 = .ok (.aload_n 0, 1) := by decide +kernel
theorem dX9_init_608 : decode cX9_init 608 = .ok (.iload_n 1, 1) := by decide +kernel
theorem dX9_init_609 : decode cX9_init 609 = .ok (.invokevirtual 138, 3) := by decide +kernel
theorem dX9_init_612 : decode cX9_init 612 = .ok (.aload_n 0, 1) := by decide +kernel
theorem dX9_init_613 : decode cX9_init 613 = .ok (.iconst 0, 1) := by decide +kernel
theorem dX9_init_614 : decode cX9_init 614 = .ok (.iload_n 1, 1) := by decide +kernel
theorem dX9_init_615 : decode cX9_init 615 = .ok (.invokevirtual 141, 3) := by decide +kernel
theorem dX9_init_618 : decode cX9_init 618 = .ok (.iinc 1 1, 3) := by decide +kernel
theorem dX9_init_621 : decode cX9_init 621 = .ok (.goto (-53), 3) := by decide +kernel
