theorem kx_197_0 : x_code k_P 197 0 = some (.aload_n 0, 1) := by decide +kernel
theorem kx_197_1 : x_code k_P 197 1 = some (.invokevirtual 280, 3) := by decide +kernel
theorem kp_197_280 : x_pool k_P 197 280 = (2, 179, 0) := by decide +kernel
theorem kx_197_4 : x_code k_P 197 4 = some (.aload_n 0, 1) := by decide +kernel
theorem kx_197_5 : x_code k_P 197 5 = some (.getfield 39, 3) := by decide +kernel
theorem kp_197_39 : x_pool k_P 197 39 = (1, 12, 9) := by decide +kernel
theorem kx_197_8 : x_code k_P 197 8 = some (.ifCond .le 5, 3) := by decide +kernel
theorem kx_197_13 : x_code k_P 197 13 = some (.aload_n 0, 1) := by decide +kernel
theorem kx_197_14 : x_code k_P 197 14 = some (.getfield 140, 3) := by decide +kernel
theorem kp_197_140 : x_pool k_P 197 140 = (1, 12, 42) := by decide +kernel
theorem kx_197_17 : x_code k_P 197 17 = some (.iconst 1, 1) := by decide +kernel
theorem kx_197_18 : x_code k_P 197 18 = some (.isub, 1) := by decide +kernel
theorem kx_197_19 : x_code k_P 197 19 = some (.istore_n 1, 1) := by decide +kernel
theorem km_197_1 : 1 < x_maxL k_P 197 := by decide +kernel
theorem kx_197_20 : x_code k_P 197 20 = some (.aload_n 0, 1) := by decide +kernel
theorem kx_197_21 : x_code k_P 197 21 = some (.getfield 124, 3) := by decide +kernel
theorem kp_197_124 : x_pool k_P 197 124 = (1, 12, 37) := by decide +kernel
theorem kx_197_24 : x_code k_P 197 24 = some (.iload_n 1, 1) := by decide +kernel
theorem kx_197_25 : x_code k_P 197 25 = some (.iaload, 1) := by decide +kernel
theorem kx_197_26 : x_code k_P 197 26 = some (.istore_n 2, 1) := by decide +kernel
theorem km_197_2 : 2 < x_maxL k_P 197 := by decide +kernel
theorem kx_197_27 : x_code k_P 197 27 = some (.iload_n 2, 1) := by decide +kernel
theorem kx_197_28 : x_code k_P 197 28 = some (.invokestatic 358, 3) := by decide +kernel
theorem kp_197_358 : x_pool k_P 197 358 = (6, 195, 1) := by decide +kernel
theorem kx_197_31 : x_code k_P 197 31 = some (.istore_n 3, 1) := by decide +kernel
theorem km_197_3 : 3 < x_maxL k_P 197 := by decide +kernel
theorem kx_197_32 : x_code k_P 197 32 = some (.aload_n 0, 1) := by decide +kernel
theorem kx_197_33 : x_code k_P 197 33 = some (.getfield 127, 3) := by decide +kernel
theorem kp_197_127 : x_pool k_P 197 127 = (1, 12, 38) := by decide +kernel
theorem kx_197_36 : x_code k_P 197 36 = some (.iload_n 1, 1) := by decide +kernel
theorem kx_197_37 : x_code k_P 197 37 = some (.iaload, 1) := by decide +kernel
theorem kx_197_38 : x_code k_P 197 38 = some (.iconst 2, 1) := by decide +kernel
theorem kx_197_39 : x_code k_P 197 39 = some (.if_icmp .ge 149, 3) := by decide +kernel
theorem kx_197_188 : x_code k_P 197 188 = some (.iload_n 3, 1) := by decide +kernel
theorem kx_197_189 : x_code k_P 197 189 = some (.ifCond .eq 96, 3) := by decide +kernel
theorem kx_197_285 : x_code k_P 197 285 = some (.iload_n 3, 1) := by decide +kernel
theorem kx_197_286 : x_code k_P 197 286 = some (.ifCond .eq 114, 3) := by decide +kernel
theorem kx_197_400 : x_code k_P 197 400 = some (.iload_n 3, 1) := by decide +kernel
theorem kx_197_401 : x_code k_P 197 401 = some (.ifCond .eq 21, 3) := by decide +kernel
theorem kx_197_422 : x_code k_P 197 422 = some (.iload_n 2, 1) := by decide +kernel
theorem kx_197_423 : x_code k_P 197 423 = some (.iconst 2, 1) := by decide +kernel
theorem kx_197_424 : x_code k_P 197 424 = some (.if_icmp .ge 17, 3) := by decide +kernel
theorem kx_197_441 : x_code k_P 197 441 = some (.iload_n 2, 1) := by decide +kernel
theorem kx_197_442 : x_code k_P 197 442 = some (.iconst 3, 1) := by decide +kernel
theorem kx_197_443 : x_code k_P 197 443 = some (.if_icmp .eq 9, 3) := by decide +kernel
theorem kx_197_452 : x_code k_P 197 452 = some (.aload_n 0, 1) := by decide +kernel
theorem kx_197_453 : x_code k_P 197 453 = some (.bipush 44, 2) := by decide +kernel
theorem kx_197_455 : x_code k_P 197 455 = some (.invokevirtual 283, 3) := by decide +kernel
theorem kp_197_283 : x_pool k_P 197 283 = (2, 181, 1) := by decide +kernel
theorem kx_197_458 : x_code k_P 197 458 = some (.ifCond .ne 12, 3) := by decide +kernel
theorem kx_197_470 : x_code k_P 197 470 = some (.aload_n 0, 1) := by decide +kernel
theorem kx_197_471 : x_code k_P 197 471 = some (.getfield 39, 3) := by decide +kernel
theorem kx_197_474 : x_code k_P 197 474 = some (.ifCond .le 5, 3) := by decide +kernel
theorem kx_197_479 : x_code k_P 197 479 = some (.aload_n 0, 1) := by decide +kernel
theorem kx_197_480 : x_code k_P 197 480 = some (.iconst 1, 1) := by decide +kernel
theorem kx_197_481 : x_code k_P 197 481 = some (.invokevirtual 370, 3) := by decide +kernel
theorem kp_197_370 : x_pool k_P 197 370 = (2, 191, 1) := by decide +kernel
theorem ki_191 : x_mci k_P 191 = 12 := by decide +kernel
theorem kcl_191 : x_maxL k_P 191 ≤ 60 ∧ 2 ≤ x_maxL k_P 191 := by decide +kernel
theorem kx_197_484 : x_code k_P 197 484 = some (.aload_n 0, 1) := by decide +kernel
theorem kx_197_485 : x_code k_P 197 485 = some (.getfield 124, 3) := by decide +kernel
theorem kx_197_488 : x_code k_P 197 488 = some (.iload_n 1, 1) := by decide +kernel
theorem kx_197_489 : x_code k_P 197 489 = some (.iload_n 2, 1) := by decide +kernel
theorem kx_197_490 : x_code k_P 197 490 = some (.iconst 3, 1) := by decide +kernel
theorem kx_197_491 : x_code k_P 197 491 = some (.if_icmp .ne 7, 3) := by decide +kernel
theorem kx_197_494 : x_code k_P 197 494 = some (.iconst 4, 1) := by decide +kernel
theorem kx_197_495 : x_code k_P 197 495 = some (.goto 4, 3) := by decide +kernel
theorem kx_197_499 : x_code k_P 197 499 = some (.iastore, 1) := by decide +kernel
theorem kx_197_500 : x_code k_P 197 500 = some (.aload_n 0, 1) := by decide +kernel
theorem kx_197_501 : x_code k_P 197 501 = some (.getfield 127, 3) := by decide +kernel
theorem kx_197_504 : x_code k_P 197 504 = some (.iload_n 1, 1) := by decide +kernel
theorem kx_197_505 : x_code k_P 197 505 = some (.iconst 0, 1) := by decide +kernel
theorem kx_197_506 : x_code k_P 197 506 = some (.iastore, 1) := by decide +kernel
theorem kx_197_507 : x_code k_P 197 507 = some (.aload_n 0, 1) := by decide +kernel
theorem kx_197_508 : x_code k_P 197 508 = some (.invokevirtual 286, 3) := by decide +kernel
theorem kp_197_286 : x_pool k_P 197 286 = (2, 180, 0) := by decide +kernel
theorem kx_197_511 : x_code k_P 197 511 = some (.aload_n 0, 1) := by decide +kernel
theorem kx_197_512 : x_code k_P 197 512 = some (.iconst 0, 1) := by decide +kernel
theorem kx_197_513 : x_code k_P 197 513 = some (.putfield 152, 3) := by decide +kernel
theorem kp_197_152 : x_pool k_P 197 152 = (1, 12, 46) := by decide +kernel
theorem kf_12_46 : (x_cls k_P 12)[46]? = some 3 := by decide +kernel
theorem kx_197_516 : x_code k_P 197 516 = some (.iconst 1, 1) := by decide +kernel
theorem kx_197_517 : x_code k_P 197 517 = some (.ireturn, 1) := by decide +kernel
theorem kq_197 : x_retk k_P 197 = 2 := by decide +kernel
theorem kx_197_461 : x_code k_P 197 461 = some (.aload_n 0, 1) := by decide +kernel
theorem kx_197_462 : x_code k_P 197 462 = some (.iconst 1, 1) := by decide +kernel
theorem kx_197_463 : x_code k_P 197 463 = some (.aload_n 0, 1) := by decide +kernel
theorem kx_197_464 : x_code k_P 197 464 = some (.getfield 23, 3) := by decide +kernel
theorem kp_197_23 : x_pool k_P 197 23 = (1, 12, 4) := by decide +kernel
theorem kx_197_467 : x_code k_P 197 467 = some (.invokevirtual 263, 3) := by decide +kernel
theorem kp_197_263 : x_pool k_P 197 263 = (2, 176, 2) := by decide +kernel
theorem kx_197_477 : x_code k_P 197 477 = some (.iconst 0, 1) := by decide +kernel
theorem kx_197_478 : x_code k_P 197 478 = some (.ireturn, 1) := by decide +kernel
theorem kx_197_446 : x_code k_P 197 446 = some (.iload_n 2, 1) := by decide +kernel
theorem kx_197_447 : x_code k_P 197 447 = some (.bipush 6, 2) := by decide +kernel
theorem kx_197_449 : x_code k_P 197 449 = some (.if_icmp .ne 69, 3) := by decide +kernel
theorem kx_197_518 : x_code k_P 197 518 = some (.aload_n 0, 1) := by decide +kernel
theorem kx_197_519 : x_code k_P 197 519 = some (.iload_n 2, 1) := by decide +kernel
theorem kx_197_520 : x_code k_P 197 520 = some (.iconst 5, 1) := by decide +kernel
theorem kx_197_521 : x_code k_P 197 521 = some (.if_icmp .ne 8, 3) := by decide +kernel
theorem kx_197_529 : x_code k_P 197 529 = some (.bipush 41, 2) := by decide +kernel
theorem kx_197_524 : x_code k_P 197 524 = some (.bipush 93, 2) := by decide +kernel
theorem kx_197_526 : x_code k_P 197 526 = some (.goto 5, 3) := by decide +kernel
theorem kx_197_531 : x_code k_P 197 531 = some (.invokevirtual 283, 3) := by decide +kernel
theorem kx_197_534 : x_code k_P 197 534 = some (.ifCond .ne 12, 3) := by decide +kernel
theorem kx_197_546 : x_code k_P 197 546 = some (.aload_n 0, 1) := by decide +kernel
theorem kx_197_547 : x_code k_P 197 547 = some (.getfield 39, 3) := by decide +kernel
theorem kx_197_550 : x_code k_P 197 550 = some (.ifCond .le 5, 3) := by decide +kernel
theorem kx_197_555 : x_code k_P 197 555 = some (.aload_n 0, 1) := by decide +kernel
theorem kx_197_556 : x_code k_P 197 556 = some (.iconst 1, 1) := by decide +kernel
theorem kx_197_557 : x_code k_P 197 557 = some (.invokevirtual 370, 3) := by decide +kernel
theorem kx_197_560 : x_code k_P 197 560 = some (.aload_n 0, 1) := by decide +kernel
theorem kx_197_561 : x_code k_P 197 561 = some (.dup, 1) := by decide +kernel
theorem kx_197_562 : x_code k_P 197 562 = some (.getfield 140, 3) := by decide +kernel
theorem kx_197_565 : x_code k_P 197 565 = some (.iconst 1, 1) := by decide +kernel
theorem kx_197_566 : x_code k_P 197 566 = some (.isub, 1) := by decide +kernel
theorem kx_197_567 : x_code k_P 197 567 = some (.putfield 140, 3) := by decide +kernel
theorem kx_197_570 : x_code k_P 197 570 = some (.aload_n 0, 1) := by decide +kernel
theorem kx_197_571 : x_code k_P 197 571 = some (.dup, 1) := by decide +kernel
theorem kx_197_572 : x_code k_P 197 572 = some (.getfield 143, 3) := by decide +kernel
theorem kp_197_143 : x_pool k_P 197 143 = (1, 12, 43) := by decide +kernel
theorem kx_197_575 : x_code k_P 197 575 = some (.iconst 1, 1) := by decide +kernel
theorem kx_197_576 : x_code k_P 197 576 = some (.isub, 1) := by decide +kernel
theorem kx_197_577 : x_code k_P 197 577 = some (.putfield 143, 3) := by decide +kernel
theorem kx_197_580 : x_code k_P 197 580 = some (.iload_n 2, 1) := by decide +kernel
theorem kx_197_581 : x_code k_P 197 581 = some (.iconst 4, 1) := by decide +kernel
theorem kx_197_582 : x_code k_P 197 582 = some (.if_icmp .ne 14, 3) := by decide +kernel
theorem kx_197_596 : x_code k_P 197 596 = some (.iload_n 2, 1) := by decide +kernel
theorem kx_197_597 : x_code k_P 197 597 = some (.iconst 5, 1) := by decide +kernel
theorem kx_197_598 : x_code k_P 197 598 = some (.if_icmp .ne 15, 3) := by decide +kernel
theorem kx_197_613 : x_code k_P 197 613 = some (.aload_n 0, 1) := by decide +kernel
theorem kx_197_614 : x_code k_P 197 614 = some (.invokevirtual 286, 3) := by decide +kernel
theorem kx_197_617 : x_code k_P 197 617 = some (.iconst 1, 1) := by decide +kernel
theorem kx_197_618 : x_code k_P 197 618 = some (.ireturn, 1) := by decide +kernel
theorem kx_197_601 : x_code k_P 197 601 = some (.aload_n 0, 1) := by decide +kernel
theorem kx_197_602 : x_code k_P 197 602 = some (.getfield 127, 3) := by decide +kernel
theorem kx_197_605 : x_code k_P 197 605 = some (.aload_n 0, 1) := by decide +kernel
theorem kx_197_606 : x_code k_P 197 606 = some (.getfield 140, 3) := by decide +kernel
theorem kx_197_609 : x_code k_P 197 609 = some (.iconst 1, 1) := by decide +kernel
theorem kx_197_610 : x_code k_P 197 610 = some (.isub, 1) := by decide +kernel
theorem kx_197_611 : x_code k_P 197 611 = some (.iconst 2, 1) := by decide +kernel
theorem kx_197_612 : x_code k_P 197 612 = some (.iastore, 1) := by decide +kernel
theorem kx_197_585 : x_code k_P 197 585 = some (.aload_n 0, 1) := by decide +kernel
theorem kx_197_586 : x_code k_P 197 586 = some (.aload_n 0, 1) := by decide +kernel
theorem kx_197_587 : x_code k_P 197 587 = some (.getfield 134, 3) := by decide +kernel
theorem kp_197_134 : x_pool k_P 197 134 = (1, 12, 40) := by decide +kernel
theorem kx_197_590 : x_code k_P 197 590 = some (.iload_n 1, 1) := by decide +kernel
theorem kx_197_591 : x_code k_P 197 591 = some (.iaload, 1) := by decide +kernel
theorem kx_197_592 : x_code k_P 197 592 = some (.iconst 0, 1) := by decide +kernel
theorem kx_197_593 : x_code k_P 197 593 = some (.invokevirtual 352, 3) := by decide +kernel
theorem kp_197_352 : x_pool k_P 197 352 = (2, 189, 2) := by decide +kernel
theorem kx_197_537 : x_code k_P 197 537 = some (.aload_n 0, 1) := by decide +kernel
theorem kx_197_538 : x_code k_P 197 538 = some (.iconst 1, 1) := by decide +kernel
theorem kx_197_539 : x_code k_P 197 539 = some (.aload_n 0, 1) := by decide +kernel
theorem kx_197_540 : x_code k_P 197 540 = some (.getfield 23, 3) := by decide +kernel
theorem kx_197_543 : x_code k_P 197 543 = some (.invokevirtual 263, 3) := by decide +kernel
theorem kx_197_553 : x_code k_P 197 553 = some (.iconst 0, 1) := by decide +kernel
theorem kx_197_554 : x_code k_P 197 554 = some (.ireturn, 1) := by decide +kernel
theorem kx_197_498 : x_code k_P 197 498 = some (.iconst 3, 1) := by decide +kernel
theorem kx_197_427 : x_code k_P 197 427 = some (.aload_n 0, 1) := by decide +kernel
theorem kx_197_428 : x_code k_P 197 428 = some (.getfield 39, 3) := by decide +kernel
theorem kx_197_431 : x_code k_P 197 431 = some (.ifCond .ne 8, 3) := by decide +kernel
theorem kx_197_434 : x_code k_P 197 434 = some (.aload_n 0, 1) := by decide +kernel
theorem kx_197_435 : x_code k_P 197 435 = some (.iconst 1, 1) := by decide +kernel
theorem kx_197_436 : x_code k_P 197 436 = some (.invokevirtual 370, 3) := by decide +kernel
theorem kx_197_439 : x_code k_P 197 439 = some (.iconst 0, 1) := by decide +kernel
theorem kx_197_440 : x_code k_P 197 440 = some (.ireturn, 1) := by decide +kernel
theorem kx_197_192 : x_code k_P 197 192 = some (.aload_n 0, 1) := by decide +kernel
theorem kx_197_193 : x_code k_P 197 193 = some (.getfield 127, 3) := by decide +kernel
theorem kx_197_196 : x_code k_P 197 196 = some (.iload_n 1, 1) := by decide +kernel
theorem kx_197_197 : x_code k_P 197 197 = some (.iaload, 1) := by decide +kernel
theorem kx_197_198 : x_code k_P 197 198 = some (.ifCond .ne 87, 3) := by decide +kernel
theorem kx_197_289 : x_code k_P 197 289 = some (.aload_n 0, 1) := by decide +kernel
theorem kx_197_290 : x_code k_P 197 290 = some (.ldc2_w 327, 3) := by decide +kernel
theorem kp_197_327 : x_pool k_P 197 327 = (8, 0, 6385252) := by decide +kernel
theorem kx_197_293 : x_code k_P 197 293 = some (.invokevirtual 361, 3) := by decide +kernel
theorem kp_197_361 : x_pool k_P 197 361 = (2, 182, 1) := by decide +kernel
theorem kx_197_296 : x_code k_P 197 296 = some (.ifCond .ne 13, 3) := by decide +kernel
theorem kx_197_309 : x_code k_P 197 309 = some (.aload_n 0, 1) := by decide +kernel
theorem kx_197_310 : x_code k_P 197 310 = some (.getfield 127, 3) := by decide +kernel
theorem kx_197_313 : x_code k_P 197 313 = some (.iload_n 1, 1) := by decide +kernel
theorem kx_197_314 : x_code k_P 197 314 = some (.iaload, 1) := by decide +kernel
theorem kx_197_315 : x_code k_P 197 315 = some (.ifCond .ne 12, 3) := by decide +kernel
theorem kx_197_327 : x_code k_P 197 327 = some (.aload_n 0, 1) := by decide +kernel
theorem kx_197_328 : x_code k_P 197 328 = some (.getfield 39, 3) := by decide +kernel
theorem kx_197_331 : x_code k_P 197 331 = some (.ifCond .le 5, 3) := by decide +kernel
theorem kx_197_336 : x_code k_P 197 336 = some (.aload_n 0, 1) := by decide +kernel
theorem kx_197_337 : x_code k_P 197 337 = some (.ldc2_w 327, 3) := by decide +kernel
theorem kx_197_340 : x_code k_P 197 340 = some (.invokevirtual 361, 3) := by decide +kernel
theorem kx_197_343 : x_code k_P 197 343 = some (.istore 4, 2) := by decide +kernel
theorem km_197_4 : 4 < x_maxL k_P 197 := by decide +kernel
theorem kx_197_345 : x_code k_P 197 345 = some (.aload_n 0, 1) := by decide +kernel
theorem kx_197_346 : x_code k_P 197 346 = some (.iload 4, 2) := by decide +kernel
theorem kx_197_348 : x_code k_P 197 348 = some (.ifCond .eq 7, 3) := by decide +kernel
theorem kx_197_355 : x_code k_P 197 355 = some (.iconst 1, 1) := by decide +kernel
theorem kx_197_351 : x_code k_P 197 351 = some (.iconst 2, 1) := by decide +kernel
theorem kx_197_352 : x_code k_P 197 352 = some (.goto 4, 3) := by decide +kernel
theorem kx_197_356 : x_code k_P 197 356 = some (.invokevirtual 370, 3) := by decide +kernel
theorem kx_197_359 : x_code k_P 197 359 = some (.aload_n 0, 1) := by decide +kernel
theorem kx_197_360 : x_code k_P 197 360 = some (.iload 4, 2) := by decide +kernel
theorem kx_197_362 : x_code k_P 197 362 = some (.ifCond .eq 8, 3) := by decide +kernel
theorem kx_197_370 : x_code k_P 197 370 = some (.bipush 21, 2) := by decide +kernel
theorem kx_197_365 : x_code k_P 197 365 = some (.bipush 20, 2) := by decide +kernel
theorem kx_197_367 : x_code k_P 197 367 = some (.goto 5, 3) := by decide +kernel
theorem kx_197_372 : x_code k_P 197 372 = some (.invokevirtual 364, 3) := by decide +kernel
theorem kp_197_364 : x_pool k_P 197 364 = (2, 192, 1) := by decide +kernel
theorem kx_197_375 : x_code k_P 197 375 = some (.aload_n 0, 1) := by decide +kernel
theorem kx_197_376 : x_code k_P 197 376 = some (.getfield 127, 3) := by decide +kernel
theorem kx_197_379 : x_code k_P 197 379 = some (.iload_n 1, 1) := by decide +kernel
theorem kx_197_380 : x_code k_P 197 380 = some (.iconst 0, 1) := by decide +kernel
theorem kx_197_381 : x_code k_P 197 381 = some (.iastore, 1) := by decide +kernel
theorem kx_197_382 : x_code k_P 197 382 = some (.aload_n 0, 1) := by decide +kernel
theorem kx_197_383 : x_code k_P 197 383 = some (.getfield 130, 3) := by decide +kernel
theorem kp_197_130 : x_pool k_P 197 130 = (1, 12, 39) := by decide +kernel
theorem kx_197_386 : x_code k_P 197 386 = some (.iload_n 1, 1) := by decide +kernel
theorem kx_197_387 : x_code k_P 197 387 = some (.iconst 1, 1) := by decide +kernel
theorem kx_197_388 : x_code k_P 197 388 = some (.bastore, 1) := by decide +kernel
theorem kx_197_389 : x_code k_P 197 389 = some (.aload_n 0, 1) := by decide +kernel
theorem kx_197_390 : x_code k_P 197 390 = some (.invokevirtual 286, 3) := by decide +kernel
theorem kx_197_393 : x_code k_P 197 393 = some (.aload_n 0, 1) := by decide +kernel
theorem kx_197_394 : x_code k_P 197 394 = some (.iconst 0, 1) := by decide +kernel
theorem kx_197_395 : x_code k_P 197 395 = some (.putfield 152, 3) := by decide +kernel
theorem kx_197_398 : x_code k_P 197 398 = some (.iconst 1, 1) := by decide +kernel
theorem kx_197_399 : x_code k_P 197 399 = some (.ireturn, 1) := by decide +kernel
theorem kx_197_299 : x_code k_P 197 299 = some (.aload_n 0, 1) := by decide +kernel
theorem kx_197_300 : x_code k_P 197 300 = some (.ldc2_w 325, 3) := by decide +kernel
theorem kp_197_325 : x_pool k_P 197 325 = (8, 0, 28530) := by decide +kernel
theorem kx_197_303 : x_code k_P 197 303 = some (.invokevirtual 361, 3) := by decide +kernel
theorem kx_197_306 : x_code k_P 197 306 = some (.ifCond .eq 94, 3) := by decide +kernel
theorem kx_197_404 : x_code k_P 197 404 = some (.aload_n 0, 1) := by decide +kernel
theorem kx_197_405 : x_code k_P 197 405 = some (.getfield 127, 3) := by decide +kernel
theorem kx_197_408 : x_code k_P 197 408 = some (.iload_n 1, 1) := by decide +kernel
theorem kx_197_409 : x_code k_P 197 409 = some (.iaload, 1) := by decide +kernel
theorem kx_197_410 : x_code k_P 197 410 = some (.ifCond .ne 12, 3) := by decide +kernel
theorem kx_197_42 : x_code k_P 197 42 = some (.aload_n 0, 1) := by decide +kernel
theorem kx_197_43 : x_code k_P 197 43 = some (.bipush 43, 2) := by decide +kernel
theorem kx_197_45 : x_code k_P 197 45 = some (.invokevirtual 283, 3) := by decide +kernel
theorem kx_197_48 : x_code k_P 197 48 = some (.ifCond .ne 39, 3) := by decide +kernel
theorem kx_197_87 : x_code k_P 197 87 = some (.aload_n 0, 1) := by decide +kernel
theorem kx_197_88 : x_code k_P 197 88 = some (.aload_n 0, 1) := by decide +kernel
theorem kx_197_89 : x_code k_P 197 89 = some (.bipush 43, 2) := by decide +kernel
theorem kx_197_91 : x_code k_P 197 91 = some (.invokevirtual 283, 3) := by decide +kernel
theorem kx_197_94 : x_code k_P 197 94 = some (.ifCond .ne 12, 3) := by decide +kernel
theorem kx_197_106 : x_code k_P 197 106 = some (.iconst 5, 1) := by decide +kernel
theorem kx_197_107 : x_code k_P 197 107 = some (.goto 5, 3) := by decide +kernel
theorem kx_197_97 : x_code k_P 197 97 = some (.aload_n 0, 1) := by decide +kernel
theorem kx_197_98 : x_code k_P 197 98 = some (.bipush 45, 2) := by decide +kernel
theorem kx_197_100 : x_code k_P 197 100 = some (.invokevirtual 283, 3) := by decide +kernel
theorem kx_197_103 : x_code k_P 197 103 = some (.ifCond .eq 7, 3) := by decide +kernel
theorem kx_197_110 : x_code k_P 197 110 = some (.bipush 6, 2) := by decide +kernel
theorem kx_197_112 : x_code k_P 197 112 = some (.invokevirtual 370, 3) := by decide +kernel
theorem kx_197_115 : x_code k_P 197 115 = some (.aload_n 0, 1) := by decide +kernel
theorem kx_197_116 : x_code k_P 197 116 = some (.aload_n 0, 1) := by decide +kernel
theorem kx_197_117 : x_code k_P 197 117 = some (.bipush 43, 2) := by decide +kernel
theorem kx_197_119 : x_code k_P 197 119 = some (.invokevirtual 283, 3) := by decide +kernel
theorem kx_197_122 : x_code k_P 197 122 = some (.ifCond .eq 8, 3) := by decide +kernel
theorem kx_197_130 : x_code k_P 197 130 = some (.aload_n 0, 1) := by decide +kernel
theorem kx_197_131 : x_code k_P 197 131 = some (.bipush 45, 2) := by decide +kernel
theorem kx_197_133 : x_code k_P 197 133 = some (.invokevirtual 283, 3) := by decide +kernel
theorem kx_197_136 : x_code k_P 197 136 = some (.ifCond .eq 8, 3) := by decide +kernel
theorem kx_197_144 : x_code k_P 197 144 = some (.aload_n 0, 1) := by decide +kernel
theorem kx_197_145 : x_code k_P 197 145 = some (.bipush 42, 2) := by decide +kernel
theorem kx_197_147 : x_code k_P 197 147 = some (.invokevirtual 283, 3) := by decide +kernel
theorem kx_197_150 : x_code k_P 197 150 = some (.ifCond .eq 8, 3) := by decide +kernel
theorem kx_197_158 : x_code k_P 197 158 = some (.aload_n 0, 1) := by decide +kernel
theorem kx_197_159 : x_code k_P 197 159 = some (.bipush 47, 2) := by decide +kernel
theorem kx_197_161 : x_code k_P 197 161 = some (.invokevirtual 283, 3) := by decide +kernel
theorem kx_197_164 : x_code k_P 197 164 = some (.ifCond .eq 8, 3) := by decide +kernel
theorem kx_197_172 : x_code k_P 197 172 = some (.bipush 14, 2) := by decide +kernel
theorem kx_197_167 : x_code k_P 197 167 = some (.bipush 13, 2) := by decide +kernel
theorem kx_197_169 : x_code k_P 197 169 = some (.goto 5, 3) := by decide +kernel
theorem kx_197_153 : x_code k_P 197 153 = some (.bipush 12, 2) := by decide +kernel
theorem kx_197_155 : x_code k_P 197 155 = some (.goto 19, 3) := by decide +kernel
theorem kx_197_139 : x_code k_P 197 139 = some (.bipush 11, 2) := by decide +kernel
theorem kx_197_141 : x_code k_P 197 141 = some (.goto 33, 3) := by decide +kernel
theorem kx_197_125 : x_code k_P 197 125 = some (.bipush 10, 2) := by decide +kernel
theorem kx_197_127 : x_code k_P 197 127 = some (.goto 47, 3) := by decide +kernel
theorem kx_197_174 : x_code k_P 197 174 = some (.invokevirtual 364, 3) := by decide +kernel
theorem kx_197_177 : x_code k_P 197 177 = some (.aload_n 0, 1) := by decide +kernel
theorem kx_197_178 : x_code k_P 197 178 = some (.invokevirtual 286, 3) := by decide +kernel
theorem kx_197_181 : x_code k_P 197 181 = some (.aload_n 0, 1) := by decide +kernel
theorem kx_197_182 : x_code k_P 197 182 = some (.iconst 0, 1) := by decide +kernel
theorem kx_197_183 : x_code k_P 197 183 = some (.putfield 152, 3) := by decide +kernel
theorem kx_197_186 : x_code k_P 197 186 = some (.iconst 1, 1) := by decide +kernel
theorem kx_197_187 : x_code k_P 197 187 = some (.ireturn, 1) := by decide +kernel
theorem kx_197_51 : x_code k_P 197 51 = some (.aload_n 0, 1) := by decide +kernel
theorem kx_197_52 : x_code k_P 197 52 = some (.bipush 45, 2) := by decide +kernel
theorem kx_197_54 : x_code k_P 197 54 = some (.invokevirtual 283, 3) := by decide +kernel
theorem kx_197_57 : x_code k_P 197 57 = some (.ifCond .ne 30, 3) := by decide +kernel
theorem kx_197_60 : x_code k_P 197 60 = some (.aload_n 0, 1) := by decide +kernel
theorem kx_197_61 : x_code k_P 197 61 = some (.bipush 42, 2) := by decide +kernel
theorem kx_197_63 : x_code k_P 197 63 = some (.invokevirtual 283, 3) := by decide +kernel
theorem kx_197_66 : x_code k_P 197 66 = some (.ifCond .ne 21, 3) := by decide +kernel
theorem kx_197_69 : x_code k_P 197 69 = some (.aload_n 0, 1) := by decide +kernel
theorem kx_197_70 : x_code k_P 197 70 = some (.bipush 47, 2) := by decide +kernel
theorem kx_197_72 : x_code k_P 197 72 = some (.invokevirtual 283, 3) := by decide +kernel
theorem kx_197_75 : x_code k_P 197 75 = some (.ifCond .ne 12, 3) := by decide +kernel
theorem kx_197_78 : x_code k_P 197 78 = some (.aload_n 0, 1) := by decide +kernel
theorem kx_197_79 : x_code k_P 197 79 = some (.bipush 37, 2) := by decide +kernel
theorem kx_197_81 : x_code k_P 197 81 = some (.invokevirtual 283, 3) := by decide +kernel
theorem kx_197_84 : x_code k_P 197 84 = some (.ifCond .eq 104, 3) := by decide +kernel
theorem kx_197_201 : x_code k_P 197 201 = some (.aload_n 0, 1) := by decide +kernel
theorem kx_197_202 : x_code k_P 197 202 = some (.bipush 60, 2) := by decide +kernel
theorem kx_197_204 : x_code k_P 197 204 = some (.invokevirtual 283, 3) := by decide +kernel
theorem kx_197_207 : x_code k_P 197 207 = some (.ifCond .ne 21, 3) := by decide +kernel
theorem kx_197_228 : x_code k_P 197 228 = some (.aload_n 0, 1) := by decide +kernel
theorem kx_197_229 : x_code k_P 197 229 = some (.iconst 5, 1) := by decide +kernel
theorem kx_197_230 : x_code k_P 197 230 = some (.invokevirtual 370, 3) := by decide +kernel
theorem kx_197_233 : x_code k_P 197 233 = some (.aload_n 0, 1) := by decide +kernel
theorem kx_197_234 : x_code k_P 197 234 = some (.aload_n 0, 1) := by decide +kernel
theorem kx_197_235 : x_code k_P 197 235 = some (.bipush 60, 2) := by decide +kernel
theorem kx_197_237 : x_code k_P 197 237 = some (.invokevirtual 283, 3) := by decide +kernel
theorem kx_197_240 : x_code k_P 197 240 = some (.ifCond .eq 8, 3) := by decide +kernel
theorem kx_197_248 : x_code k_P 197 248 = some (.aload_n 0, 1) := by decide +kernel
theorem kx_197_249 : x_code k_P 197 249 = some (.bipush 62, 2) := by decide +kernel
theorem kx_197_251 : x_code k_P 197 251 = some (.invokevirtual 283, 3) := by decide +kernel
theorem kx_197_254 : x_code k_P 197 254 = some (.ifCond .eq 8, 3) := by decide +kernel
theorem kx_197_262 : x_code k_P 197 262 = some (.bipush 19, 2) := by decide +kernel
theorem kx_197_257 : x_code k_P 197 257 = some (.bipush 18, 2) := by decide +kernel
theorem kx_197_259 : x_code k_P 197 259 = some (.goto 5, 3) := by decide +kernel
theorem kx_197_243 : x_code k_P 197 243 = some (.bipush 17, 2) := by decide +kernel
theorem kx_197_245 : x_code k_P 197 245 = some (.goto 19, 3) := by decide +kernel
theorem kx_197_264 : x_code k_P 197 264 = some (.invokevirtual 364, 3) := by decide +kernel
theorem kx_197_267 : x_code k_P 197 267 = some (.aload_n 0, 1) := by decide +kernel
theorem kx_197_268 : x_code k_P 197 268 = some (.getfield 127, 3) := by decide +kernel
theorem kx_197_271 : x_code k_P 197 271 = some (.iload_n 1, 1) := by decide +kernel
theorem kx_197_272 : x_code k_P 197 272 = some (.iconst 1, 1) := by decide +kernel
theorem kx_197_273 : x_code k_P 197 273 = some (.iastore, 1) := by decide +kernel
theorem kx_197_274 : x_code k_P 197 274 = some (.aload_n 0, 1) := by decide +kernel
theorem kx_197_275 : x_code k_P 197 275 = some (.invokevirtual 286, 3) := by decide +kernel
theorem kx_197_278 : x_code k_P 197 278 = some (.aload_n 0, 1) := by decide +kernel
theorem kx_197_279 : x_code k_P 197 279 = some (.iconst 0, 1) := by decide +kernel
theorem kx_197_280 : x_code k_P 197 280 = some (.putfield 152, 3) := by decide +kernel
theorem kx_197_283 : x_code k_P 197 283 = some (.iconst 1, 1) := by decide +kernel
theorem kx_197_284 : x_code k_P 197 284 = some (.ireturn, 1) := by decide +kernel
theorem kx_197_210 : x_code k_P 197 210 = some (.aload_n 0, 1) := by decide +kernel
theorem kx_197_211 : x_code k_P 197 211 = some (.bipush 62, 2) := by decide +kernel
theorem kx_197_213 : x_code k_P 197 213 = some (.invokevirtual 283, 3) := by decide +kernel
theorem kx_197_216 : x_code k_P 197 216 = some (.ifCond .ne 12, 3) := by decide +kernel
theorem kx_197_219 : x_code k_P 197 219 = some (.aload_n 0, 1) := by decide +kernel
theorem kx_197_220 : x_code k_P 197 220 = some (.bipush 61, 2) := by decide +kernel
theorem kx_197_222 : x_code k_P 197 222 = some (.invokevirtual 283, 3) := by decide +kernel
theorem kx_197_225 : x_code k_P 197 225 = some (.ifCond .eq 60, 3) := by decide +kernel
theorem kx_197_318 : x_code k_P 197 318 = some (.aload_n 0, 1) := by decide +kernel
theorem kx_197_319 : x_code k_P 197 319 = some (.iconst 1, 1) := by decide +kernel
theorem kx_197_320 : x_code k_P 197 320 = some (.aload_n 0, 1) := by decide +kernel
theorem kx_197_321 : x_code k_P 197 321 = some (.getfield 23, 3) := by decide +kernel
theorem kx_197_324 : x_code k_P 197 324 = some (.invokevirtual 263, 3) := by decide +kernel
theorem kx_197_334 : x_code k_P 197 334 = some (.iconst 0, 1) := by decide +kernel
theorem kx_197_335 : x_code k_P 197 335 = some (.ireturn, 1) := by decide +kernel
theorem kx_197_413 : x_code k_P 197 413 = some (.aload_n 0, 1) := by decide +kernel
theorem kx_197_414 : x_code k_P 197 414 = some (.iconst 1, 1) := by decide +kernel
theorem kx_197_415 : x_code k_P 197 415 = some (.aload_n 0, 1) := by decide +kernel
theorem kx_197_416 : x_code k_P 197 416 = some (.getfield 23, 3) := by decide +kernel
theorem kx_197_419 : x_code k_P 197 419 = some (.invokevirtual 263, 3) := by decide +kernel
theorem kx_197_11 : x_code k_P 197 11 = some (.iconst 0, 1) := by decide +kernel
theorem kx_197_12 : x_code k_P 197 12 = some (.ireturn, 1) := by decide +kernel
def fS_197_m : List (Nat × Nat) := [(63, 10), (63, 13), (63, 3), (63, 35), (63, 4), (63, 42), (63, 43), (63, 45), (63, 46), (63, 5), (63, 6), (63, 7), (63, 8), (63, 9), (81, 99999), (82, 99999), (85, 99999), (86, 99999), (87, 99999), (90, 99999)]
def fS_197_j521 : List (Nat × Nat) := []
def fS_197_j348 : List (Nat × Nat) := []
def fS_197_j362 : List (Nat × Nat) := []
def fS_197_j94 : List (Nat × Nat) := []
def fS_197_j122 : List (Nat × Nat) := []
def fS_197_j240 : List (Nat × Nat) := []
set_option maxHeartbeats 4000000 in
theorem m_197 {xs : Nat → Int} {Ln d : Nat} {T : List cK} {M : cM} (hT : TT T) (hI : Rng M) (hX : LXp M) {c : Nat → Int} {a q : Int} (hP : PI M c a 1 7 q 0) (hB : B0 M) (p0 : q ≤ M 63 4) : cC k_P xs Ln (d + 2) 197 [rf 63] (T, M) (qW T M fS_197_m 0 (fun v M1 => 0 ≤ v ∧ v ≤ 1 ∧ (LXp M1 ∧ M 63 4 ≤ M1 63 4 ∧ M 63 9 ≤ M1 63 9 ∧ (GOd M M1 c a v ∧ KP M M1)))) := by
  show cP k_P xs Ln (d + 2) 197 0 [(0, rf 63)] [] (T, M) _
  have hFm : Fr fS_197_m M M := Fr.refl
  have h639 := rg_63_9 hI
  have ⟨lx1, lx2⟩ := hX
  have hd := PI.deep hP
  have hs := PI.small hP (rg_63_43 hI).2 (by decide)
  have hs1 := hs.1
  have hs2 := hs.2.1
  have h4 := rg_63_4 hI
  have h43 := rg_63_43 hI
  have h5 := rg_63_5 hI
  have h45 := rg_63_45 hI
  refine s_aload_n kx_197_0 rfl ?_
  refine s_callV2 (k := 63) (s1 := 1) (s2 := 0) (as := []) (rest := []) kx_197_1 kp_197_280 (Or.inl rfl) rfl (tk_63 hT) ki_179 kcl_179 rfl rfl (by decide) (m_179 (d := d) hT hI) (kV (fun M2 hI2 fr2 v1p => ?_))
  have hFm2 := hFm.call fr2 rfl
  have tr3 := (fr2 63 3 rfl)
  have tr4 := (fr2 63 4 rfl)
  have tr5 := (fr2 63 5 rfl)
  have tr6 := (fr2 63 35 rfl)
  have tr7 := (fr2 63 42 rfl)
  have tr8 := (fr2 63 43 rfl)
  have tr9 := (fr2 63 45 rfl)
  have tr10 := rg_63_9 hI2
  refine s_aload_n kx_197_4 rfl ?_
  refine r_getI (k := 63) (f := 9) kx_197_5 kp_197_39 (tk_63 hT) kf_12_9 (fun _ => rfl) (rg_63_9 hI2) (fun v11 v11e v11a v11b => ?_)
  refine s_if_le (t := 13) kx_197_8 (by decide) (fun hc12 => ?_) (fun hc12 => ?_)
  · refine s_aload_n kx_197_13 rfl ?_
    refine r_getI (k := 63) (f := 42) kx_197_14 kp_197_140 (tk_63 hT) kf_12_42 (fun _ => rfl) (rg_63_42 hI2) (fun v13 v13e v13a v13b => ?_)
    have v13z : M 63 42 = v13 := ((fr2 63 42 rfl)).symm.trans v13e
    refine s_iconst (v := 1) kx_197_17 (by decide) ?_
    refine r_sub kx_197_18 ⟨by omega, by omega⟩ ?_
    refine s_istore_n kx_197_19 km_197_1 rfl ?_
    refine s_aload_n kx_197_20 rfl ?_
    refine r_getR (k := 63) (f := 37) (k2 := 85) kx_197_21 kp_197_124 (tk_63 hT) kf_12_37 (by decide) (rq_63_37 hI2) ?_
    refine s_iload_n kx_197_24 rfl ?_
    refine r_ald (k := 85) kx_197_25 (tk_85 hT) ⟨by omega, by omega⟩ (rg_85 hI2) (fun v14 v14e v14a v14b => ?_)
    refine s_istore_n kx_197_26 km_197_2 rfl ?_
    refine s_iload_n kx_197_27 rfl ?_
    refine s_callS2 (s1 := 1) (s2 := 0) (as := [(0, v14)]) (rest := []) kx_197_28 kp_197_358 rfl kcl_195 rfl rfl (by decide) (m_195 (d := d + 1) (kind := v14) hT hI2) (kF (fun v15 v15p => ?_))
    refine s_istore_n kx_197_31 km_197_3 rfl ?_
    refine s_aload_n kx_197_32 rfl ?_
    refine r_getR (k := 63) (f := 38) (k2 := 86) kx_197_33 kp_197_127 (tk_63 hT) kf_12_38 (by decide) (rq_63_38 hI2) ?_
    refine s_iload_n kx_197_36 rfl ?_
    refine r_ald (k := 86) kx_197_37 (tk_86 hT) ⟨by omega, by omega⟩ (rg_86 hI2) (fun v16 v16e v16a v16b => ?_)
    refine s_iconst (v := 2) kx_197_38 (by decide) ?_
    refine s_icmp_ge (t := 188) kx_197_39 (by decide) (fun hc17 => ?_) (fun hc17 => ?_)
    · refine s_iload_n kx_197_188 rfl ?_
      refine s_if_eq (t := 285) kx_197_189 (by decide) (fun hc18 => ?_) (fun hc18 => ?_)
      · replace v15p := v15p.resolve_left (by omega)
        refine s_iload_n kx_197_285 rfl ?_
        refine s_if_eq (t := 400) kx_197_286 (by decide) (fun hc19 => ?_) (fun hc19 => absurd hc19 (by omega))
        refine s_iload_n kx_197_400 rfl ?_
        refine s_if_eq (t := 422) kx_197_401 (by decide) (fun hc20 => ?_) (fun hc20 => absurd hc20 (by omega))
        refine s_iload_n kx_197_422 rfl ?_
        refine s_iconst (v := 2) kx_197_423 (by decide) ?_
        refine s_icmp_ge (t := 441) kx_197_424 (by decide) (fun hc21 => ?_) (fun hc21 => ?_)
        · refine s_iload_n kx_197_441 rfl ?_
          refine s_iconst (v := 3) kx_197_442 (by decide) ?_
          refine s_icmp_eq (t := 452) kx_197_443 (by decide) (fun hc22 => ?_) (fun hc22 => ?_)
          · refine s_aload_n kx_197_452 rfl ?_
            refine s_bipush (v := 44) kx_197_453 (by decide) ?_
            refine s_callV2 (k := 63) (s1 := 2) (s2 := 0) (as := [(0, 44)]) (rest := []) kx_197_455 kp_197_283 (Or.inl rfl) rfl (tk_63 hT) ki_181 kcl_181 rfl rfl (by decide) (m_181 (d := d + 1) (c := 44) hT hI2) (kF (fun v23 v23p => ?_))
            refine s_if_ne (t := 470) kx_197_458 (by decide) (fun hc24 => ?_) (fun hc24 => ?_)
            · replace v23p := v23p.resolve_right (by omega)
              refine s_aload_n kx_197_470 rfl ?_
              refine r_getK (k := 63) (f := 9) kx_197_471 kp_197_39 (tk_63 hT) kf_12_9 (fun _ => rfl) v11e ?_
              refine s_if_le (t := 479) kx_197_474 (by decide) (fun hc25 => ?_) (fun hc25 => absurd hc25 (by omega))
              refine s_aload_n kx_197_479 rfl ?_
              refine s_iconst (v := 1) kx_197_480 (by decide) ?_
              refine s_callV2 (k := 63) (s1 := 2) (s2 := 0) (as := [(0, 1)]) (rest := []) kx_197_481 kp_197_370 (Or.inl rfl) rfl (tk_63 hT) ki_191 kcl_191 rfl rfl (by decide) (m_191 (d := d) (least := 1) hT hI2 (PI.fr hP fr2 rfl) (by omega) (by omega) (by omega)) (kV (fun M27 hI27 fr27 v26p => ?_))
              have hFm27 := hFm2.call fr27 rfl
              have tr28 := (fr27 63 3 rfl)
              have tr29 := (fr27 63 4 rfl)
              have tr30 := (fr27 63 5 rfl)
              have tr31 := (fr27 63 9 rfl)
              have tr32 := (fr27 63 42 rfl)
              have tr33 := rg_63_9 hI27
              have hd34 := PI.deep v26p.1
              have hs35 := PI.small v26p.1 (rg_63_43 hI27).2 (by decide)
              have hs35a := hs35.1
              have hs35b := hs35.2.1
              have hs35c := rg_63_45 hI27
              have hK36 := KP.trans (KP.fr (KP.refl (M := M)) fr2 (fun _ => rfl)) (fr2 63 36 rfl) v26p.2
              have hk8537 : M27 85 ((v13 - 1)).toNat = v14 := ((fr27 85 _ rfl).trans v14e)
              refine s_aload_n kx_197_484 rfl ?_
              refine r_getR (k := 63) (f := 37) (k2 := 85) kx_197_485 kp_197_124 (tk_63 hT) kf_12_37 (by decide) (rq_63_37 hI27) ?_
              refine s_iload_n kx_197_488 rfl ?_
              refine s_iload_n kx_197_489 rfl ?_
              refine s_iconst (v := 3) kx_197_490 (by decide) ?_
              refine s_icmp_ne (t := 498) kx_197_491 (by decide) (fun hc38 => absurd hc38 (by omega)) (fun hc38 => ?_)
              refine s_iconst (v := 4) kx_197_494 (by decide) ?_
              refine s_goto (t := 499) kx_197_495 (by decide) ?_
              refine r_ast (k := 85) kx_197_499 (tk_85 hT) ⟨by omega, by omega⟩ hI27 (ru_85 (by omega) (by omega)) (fun M39 hI39 u39 => ?_)
              have hFm39 := hFm27.up u39 rfl
              have tr40 := (u39.2 63 3 (by omega))
              have tr41 := (u39.2 63 4 (by omega))
              have tr42 := (u39.2 63 5 (by omega))
              have tr43 := (u39.2 63 9 (by omega))
              have tr44 := (u39.2 63 35 (by omega))
              have tr45 := (u39.2 63 42 (by omega))
              have tr46 := (u39.2 63 43 (by omega))
              have tr47 := (u39.2 63 45 (by omega))
              refine s_aload_n kx_197_500 rfl ?_
              refine r_getR (k := 63) (f := 38) (k2 := 86) kx_197_501 kp_197_127 (tk_63 hT) kf_12_38 (by decide) (rq_63_38 hI39) ?_
              refine s_iload_n kx_197_504 rfl ?_
              refine s_iconst (v := 0) kx_197_505 (by decide) ?_
              refine r_ast (k := 86) kx_197_506 (tk_86 hT) ⟨by omega, by omega⟩ hI39 (ru_86 (by omega) (by omega)) (fun M48 hI48 u48 => ?_)
              have hFm48 := hFm39.up u48 rfl
              have tr49 := (u48.2 63 3 (by omega))
              have tr50 := (u48.2 63 4 (by omega))
              have tr51 := (u48.2 63 5 (by omega))
              have tr52 := (u48.2 63 9 (by omega))
              have tr53 := (u48.2 63 35 (by omega))
              have tr54 := (u48.2 63 42 (by omega))
              have tr55 := (u48.2 63 43 (by omega))
              have tr56 := (u48.2 63 45 (by omega))
              refine s_aload_n kx_197_507 rfl ?_
              refine s_callV2 (k := 63) (s1 := 1) (s2 := 0) (as := []) (rest := []) kx_197_508 kp_197_286 (Or.inl rfl) rfl (tk_63 hT) ki_180 kcl_180 rfl rfl (by decide) (m_180 (d := d) hT hI48) (kV (fun M58 hI58 fr58 v57p => ?_))
              have hFm58 := hFm48.call fr58 rfl
              have tr59 := (fr58 63 9 rfl)
              have tr60 := (fr58 63 35 rfl)
              have tr61 := (fr58 63 42 rfl)
              have tr62 := (fr58 63 43 rfl)
              have tr63 := (fr58 63 45 rfl)
              have tr64 := rg_63_9 hI58
              refine s_aload_n kx_197_511 rfl ?_
              refine s_iconst (v := 0) kx_197_512 (by decide) ?_
              refine r_put (k := 63) (f := 46) kx_197_513 kp_197_152 (tk_63 hT) kf_12_46 rfl (by decide) (by decide) hI58 (ru_63_46 (by omega) (by omega)) (fun M65 hI65 u65 => ?_)
              have hFm65 := hFm58.up u65 rfl
              have tr66 := (u65.2 63 3 (by omega))
              have tr67 := (u65.2 63 4 (by omega))
              have tr68 := (u65.2 63 5 (by omega))
              have tr69 := (u65.2 63 9 (by omega))
              have tr70 := (u65.2 63 35 (by omega))
              have tr71 := (u65.2 63 42 (by omega))
              have tr72 := (u65.2 63 43 (by omega))
              have tr73 := (u65.2 63 45 (by omega))
              refine s_iconst (v := 1) kx_197_516 (by decide) ?_
              have hk74 : M65 63 9 = v11 := ((u65.2 63 9 (by omega)).trans ((fr58 63 9 rfl).trans ((u48.2 63 9 (by omega)).trans ((u39.2 63 9 (by omega)).trans ((fr27 63 9 rfl).trans v11e)))))
              exact s_iret kx_197_517 (Or.inr ⟨kq_197, by omega⟩) ⟨_, _, rfl, rfl, hI65, hFm65, ⟨by omega, by omega, (LXp.up (show LXp M58 from v57p.2) u65 (by decide)), (by omega), (by omega), ⟨(Or.inr (Or.inr ⟨rfl, by omega, Or.inl ⟨u65.1, PI.to7 (PI.fr (PI.fr (PI.phase (PI.comma v26p.1 (by omega) (by omega) u39) (Or.inr (by omega)) (by omega) u48) fr58 rfl) (Up.fr u65) rfl) (by omega)⟩⟩)), (KP.up (KP.fr (KP.up (KP.up hK36 u39 (by decide)) u48 (by decide)) fr58 (fun _ => rfl)) u65 (by decide))⟩⟩⟩
            · replace v23p := v23p.resolve_left (by omega)
              refine s_aload_n kx_197_461 rfl ?_
              refine s_iconst (v := 1) kx_197_462 (by decide) ?_
              refine s_aload_n kx_197_463 rfl ?_
              refine r_getI (k := 63) (f := 4) kx_197_464 kp_197_23 (tk_63 hT) kf_12_4 (fun _ => rfl) (rg_63_4 hI2) (fun v75 v75e v75a v75b => ?_)
              have v75z : M 63 4 = v75 := ((fr2 63 4 rfl)).symm.trans v75e
              refine s_callV2 (k := 63) (s1 := 3) (s2 := 0) (as := [(0, v75), (0, 1)]) (rest := []) kx_197_467 kp_197_263 (Or.inl rfl) rfl (tk_63 hT) ki_176 kcl_176 rfl rfl (by decide) (m_176 (d := d + 1) (kind := 1) (place := v75) hT hI2 (by omega)) (kV (fun M77 hI77 fr77 v76p => ?_))
              have hFm77 := hFm2.call fr77 rfl
              have tr78 := (fr77 63 3 rfl)
              have tr79 := (fr77 63 4 rfl)
              have tr80 := (fr77 63 5 rfl)
              have tr81 := (fr77 63 35 rfl)
              have tr82 := (fr77 63 42 rfl)
              have tr83 := (fr77 63 43 rfl)
              have tr84 := (fr77 63 45 rfl)
              have tr85 := rg_63_9 hI77
              refine s_aload_n kx_197_470 rfl ?_
              refine r_getI (k := 63) (f := 9) kx_197_471 kp_197_39 (tk_63 hT) kf_12_9 (fun _ => rfl) (rg_63_9 hI77) (fun v86 v86e v86a v86b => ?_)
              refine s_if_le (t := 479) kx_197_474 (by decide) (fun hc87 => ?_) (fun hc87 => ?_)
              · refine s_aload_n kx_197_479 rfl ?_
                refine s_iconst (v := 1) kx_197_480 (by decide) ?_
                refine s_callV2 (k := 63) (s1 := 2) (s2 := 0) (as := [(0, 1)]) (rest := []) kx_197_481 kp_197_370 (Or.inl rfl) rfl (tk_63 hT) ki_191 kcl_191 rfl rfl (by decide) (m_191 (d := d) (least := 1) hT hI77 (PI.fr (PI.fr hP fr2 rfl) fr77 rfl) (by omega) (by omega) (by omega)) (kV (fun M89 hI89 fr89 v88p => ?_))
                have hFm89 := hFm77.call fr89 rfl
                have tr90 := (fr89 63 3 rfl)
                have tr91 := (fr89 63 4 rfl)
                have tr92 := (fr89 63 5 rfl)
                have tr93 := (fr89 63 9 rfl)
                have tr94 := (fr89 63 42 rfl)
                have tr95 := rg_63_9 hI89
                have hd96 := PI.deep v88p.1
                have hs97 := PI.small v88p.1 (rg_63_43 hI89).2 (by decide)
                have hs97a := hs97.1
                have hs97b := hs97.2.1
                have hs97c := rg_63_45 hI89
                have hK98 := KP.trans (KP.fr (KP.fr (KP.refl (M := M)) fr2 (fun _ => rfl)) fr77 (fun _ => rfl)) ((fr77 63 36 rfl).trans (fr2 63 36 rfl)) v88p.2
                have hk8599 : M89 85 ((v13 - 1)).toNat = v14 := ((fr89 85 _ rfl).trans ((fr77 85 _ rfl).trans v14e))
                refine s_aload_n kx_197_484 rfl ?_
                refine r_getR (k := 63) (f := 37) (k2 := 85) kx_197_485 kp_197_124 (tk_63 hT) kf_12_37 (by decide) (rq_63_37 hI89) ?_
                refine s_iload_n kx_197_488 rfl ?_
                refine s_iload_n kx_197_489 rfl ?_
                refine s_iconst (v := 3) kx_197_490 (by decide) ?_
                refine s_icmp_ne (t := 498) kx_197_491 (by decide) (fun hc100 => absurd hc100 (by omega)) (fun hc100 => ?_)
                refine s_iconst (v := 4) kx_197_494 (by decide) ?_
                refine s_goto (t := 499) kx_197_495 (by decide) ?_
                refine r_ast (k := 85) kx_197_499 (tk_85 hT) ⟨by omega, by omega⟩ hI89 (ru_85 (by omega) (by omega)) (fun M101 hI101 u101 => ?_)
                have hFm101 := hFm89.up u101 rfl
                have tr102 := (u101.2 63 3 (by omega))
                have tr103 := (u101.2 63 4 (by omega))
                have tr104 := (u101.2 63 5 (by omega))
                have tr105 := (u101.2 63 9 (by omega))
                have tr106 := (u101.2 63 35 (by omega))
                have tr107 := (u101.2 63 42 (by omega))
                have tr108 := (u101.2 63 43 (by omega))
                have tr109 := (u101.2 63 45 (by omega))
                refine s_aload_n kx_197_500 rfl ?_
                refine r_getR (k := 63) (f := 38) (k2 := 86) kx_197_501 kp_197_127 (tk_63 hT) kf_12_38 (by decide) (rq_63_38 hI101) ?_
                refine s_iload_n kx_197_504 rfl ?_
                refine s_iconst (v := 0) kx_197_505 (by decide) ?_
                refine r_ast (k := 86) kx_197_506 (tk_86 hT) ⟨by omega, by omega⟩ hI101 (ru_86 (by omega) (by omega)) (fun M110 hI110 u110 => ?_)
                have hFm110 := hFm101.up u110 rfl
                have tr111 := (u110.2 63 3 (by omega))
                have tr112 := (u110.2 63 4 (by omega))
                have tr113 := (u110.2 63 5 (by omega))
                have tr114 := (u110.2 63 9 (by omega))
                have tr115 := (u110.2 63 35 (by omega))
                have tr116 := (u110.2 63 42 (by omega))
                have tr117 := (u110.2 63 43 (by omega))
                have tr118 := (u110.2 63 45 (by omega))
                refine s_aload_n kx_197_507 rfl ?_
                refine s_callV2 (k := 63) (s1 := 1) (s2 := 0) (as := []) (rest := []) kx_197_508 kp_197_286 (Or.inl rfl) rfl (tk_63 hT) ki_180 kcl_180 rfl rfl (by decide) (m_180 (d := d) hT hI110) (kV (fun M120 hI120 fr120 v119p => ?_))
                have hFm120 := hFm110.call fr120 rfl
                have tr121 := (fr120 63 9 rfl)
                have tr122 := (fr120 63 35 rfl)
                have tr123 := (fr120 63 42 rfl)
                have tr124 := (fr120 63 43 rfl)
                have tr125 := (fr120 63 45 rfl)
                have tr126 := rg_63_9 hI120
                refine s_aload_n kx_197_511 rfl ?_
                refine s_iconst (v := 0) kx_197_512 (by decide) ?_
                refine r_put (k := 63) (f := 46) kx_197_513 kp_197_152 (tk_63 hT) kf_12_46 rfl (by decide) (by decide) hI120 (ru_63_46 (by omega) (by omega)) (fun M127 hI127 u127 => ?_)
                have hFm127 := hFm120.up u127 rfl
                have tr128 := (u127.2 63 3 (by omega))
                have tr129 := (u127.2 63 4 (by omega))
                have tr130 := (u127.2 63 5 (by omega))
                have tr131 := (u127.2 63 9 (by omega))
                have tr132 := (u127.2 63 35 (by omega))
                have tr133 := (u127.2 63 42 (by omega))
                have tr134 := (u127.2 63 43 (by omega))
                have tr135 := (u127.2 63 45 (by omega))
                refine s_iconst (v := 1) kx_197_516 (by decide) ?_
                have hk136 : M127 63 9 = v86 := ((u127.2 63 9 (by omega)).trans ((fr120 63 9 rfl).trans ((u110.2 63 9 (by omega)).trans ((u101.2 63 9 (by omega)).trans ((fr89 63 9 rfl).trans v86e)))))
                exact s_iret kx_197_517 (Or.inr ⟨kq_197, by omega⟩) ⟨_, _, rfl, rfl, hI127, hFm127, ⟨by omega, by omega, (LXp.up (show LXp M120 from v119p.2) u127 (by decide)), (by omega), (by omega), ⟨(Or.inr (Or.inr ⟨rfl, by omega, Or.inl ⟨u127.1, PI.to7 (PI.fr (PI.fr (PI.phase (PI.comma v88p.1 (by omega) (by omega) u101) (Or.inr (by omega)) (by omega) u110) fr120 rfl) (Up.fr u127) rfl) (by omega)⟩⟩)), (KP.up (KP.fr (KP.up (KP.up hK98 u101 (by decide)) u110 (by decide)) fr120 (fun _ => rfl)) u127 (by decide))⟩⟩⟩
              · refine s_iconst (v := 0) kx_197_477 (by decide) ?_
                have hk137 : M77 63 4 = v75 := ((fr77 63 4 rfl).trans v75e)
                have hk138 : M77 63 9 = v86 := v86e
                exact s_iret kx_197_478 (Or.inr ⟨kq_197, by omega⟩) ⟨_, _, rfl, rfl, hI77, hFm77, ⟨by omega, by omega, (LXp.fr (LXp.fr hX fr2 rfl) fr77 rfl), (by omega), (by omega), ⟨(Or.inl (by omega)), (KP.fr (KP.fr (KP.refl (M := M)) fr2 (fun _ => rfl)) fr77 (fun _ => rfl))⟩⟩⟩
          · refine s_iload_n kx_197_446 rfl ?_
            refine s_bipush (v := 6) kx_197_447 (by decide) ?_
            refine s_icmp_ne (t := 518) kx_197_449 (by decide) (fun hc139 => ?_) (fun hc139 => ?_)
            · refine s_aload_n kx_197_518 rfl ?_
              refine s_iload_n kx_197_519 rfl ?_
              refine s_iconst (v := 5) kx_197_520 (by decide) ?_
              have jn144 : ∀ (y143 : Int), (41 ≤ y143) → (y143 ≤ 93) → cP k_P xs Ln (d + 2) 197 531 [(0, rf 63), (1, (0, (v13 - 1))), (2, (0, v14))] [(0, y143), rf 63] (T, M2) (qW T M fS_197_m 0 (fun v M1 => 0 ≤ v ∧ v ≤ 1 ∧ (LXp M1 ∧ M 63 4 ≤ M1 63 4 ∧ M 63 9 ≤ M1 63 9 ∧ (GOd M M1 c a v ∧ KP M M1)))) := by
                intro y143 a145 a146
                refine s_callV2 (k := 63) (s1 := 2) (s2 := 0) (as := [(0, y143)]) (rest := []) kx_197_531 kp_197_283 (Or.inl rfl) rfl (tk_63 hT) ki_181 kcl_181 rfl rfl (by decide) (m_181 (d := d + 1) (c := y143) hT hI2) (kF (fun v147 v147p => ?_))
                refine s_if_ne (t := 546) kx_197_534 (by decide) (fun hc148 => ?_) (fun hc148 => ?_)
                · replace v147p := v147p.resolve_right (by omega)
                  refine s_aload_n kx_197_546 rfl ?_
                  refine r_getK (k := 63) (f := 9) kx_197_547 kp_197_39 (tk_63 hT) kf_12_9 (fun _ => rfl) v11e ?_
                  refine s_if_le (t := 555) kx_197_550 (by decide) (fun hc149 => ?_) (fun hc149 => absurd hc149 (by omega))
                  refine s_aload_n kx_197_555 rfl ?_
                  refine s_iconst (v := 1) kx_197_556 (by decide) ?_
                  refine s_callV2 (k := 63) (s1 := 2) (s2 := 0) (as := [(0, 1)]) (rest := []) kx_197_557 kp_197_370 (Or.inl rfl) rfl (tk_63 hT) ki_191 kcl_191 rfl rfl (by decide) (m_191 (d := d) (least := 1) hT hI2 (PI.fr hP fr2 rfl) (by omega) (by omega) (by omega)) (kV (fun M151 hI151 fr151 v150p => ?_))
                  have hFm151 := hFm2.call fr151 rfl
                  have tr152 := (fr151 63 3 rfl)
                  have tr153 := (fr151 63 4 rfl)
                  have tr154 := (fr151 63 5 rfl)
                  have tr155 := (fr151 63 9 rfl)
                  have tr156 := (fr151 63 42 rfl)
                  have tr157 := rg_63_9 hI151
                  have hd158 := PI.deep v150p.1
                  have hs159 := PI.small v150p.1 (rg_63_43 hI151).2 (by decide)
                  have hs159a := hs159.1
                  have hs159b := hs159.2.1
                  have hs159c := rg_63_45 hI151
                  have hK160 := KP.trans (KP.fr (KP.refl (M := M)) fr2 (fun _ => rfl)) (fr2 63 36 rfl) v150p.2
                  refine s_aload_n kx_197_560 rfl ?_
                  refine s_dup kx_197_561 rfl ?_
                  refine r_getK (k := 63) (f := 42) kx_197_562 kp_197_140 (tk_63 hT) kf_12_42 (fun _ => rfl) ((fr151 63 42 rfl).trans v13e) ?_
                  refine s_iconst (v := 1) kx_197_565 (by decide) ?_
                  refine r_sub kx_197_566 ⟨by omega, by omega⟩ ?_
                  refine r_put (k := 63) (f := 42) kx_197_567 kp_197_140 (tk_63 hT) kf_12_42 rfl (by decide) (by decide) hI151 (ru_63_42 (by omega) (by omega)) (fun M161 hI161 u161 => ?_)
                  have hFm161 := hFm151.up u161 rfl
                  have tr162 := (u161.2 63 3 (by omega))
                  have tr163 := (u161.2 63 4 (by omega))
                  have tr164 := (u161.2 63 5 (by omega))
                  have tr165 := (u161.2 63 9 (by omega))
                  have tr166 := (u161.2 63 35 (by omega))
                  have tr167 := u161.1
                  have tr168 := (u161.2 63 43 (by omega))
                  have tr169 := (u161.2 63 45 (by omega))
                  have hcl170 := PI.close v150p.1 (by decide) (f := (v13 - 1)) (by omega) ((fr151 85 _ rfl).trans v14e) (by omega) u161 (by omega)
                  have hcl170d := hcl170.2.2.1
                  have hcl170q := PI.deep hcl170.1
                  refine s_aload_n kx_197_570 rfl ?_
                  refine s_dup kx_197_571 rfl ?_
                  refine r_getI (k := 63) (f := 43) kx_197_572 kp_197_143 (tk_63 hT) kf_12_43 (fun _ => rfl) (rg_63_43 hI161) (fun v171 v171e v171a v171b => ?_)
                  refine s_iconst (v := 1) kx_197_575 (by decide) ?_
                  refine r_sub kx_197_576 ⟨by omega, by omega⟩ ?_
                  have hcl170e := PI.e_le hcl170.1
                  refine r_put (k := 63) (f := 43) kx_197_577 kp_197_143 (tk_63 hT) kf_12_43 rfl (by decide) (by decide) hI161 (ru_63_43 (by omega) (by omega)) (fun M172 hI172 u172 => ?_)
                  have hFm172 := hFm161.up u172 rfl
                  have tr173 := (u172.2 63 3 (by omega))
                  have tr174 := (u172.2 63 4 (by omega))
                  have tr175 := (u172.2 63 5 (by omega))
                  have tr176 := (u172.2 63 9 (by omega))
                  have tr177 := (u172.2 63 35 (by omega))
                  have tr178 := (u172.2 63 42 (by omega))
                  have tr179 := u172.1
                  have tr180 := (u172.2 63 45 (by omega))
                  have hP181 := (PI.opn (e' := 0) hcl170.1 u172 (by omega))
                  refine s_iload_n kx_197_580 rfl ?_
                  refine s_iconst (v := 4) kx_197_581 (by decide) ?_
                  refine s_icmp_ne (t := 596) kx_197_582 (by decide) (fun hc182 => ?_) (fun hc182 => ?_)
                  · have hP183 := PI.comp0 hP181 (by omega)
                    refine s_iload_n kx_197_596 rfl ?_
                    refine s_iconst (v := 5) kx_197_597 (by decide) ?_
                    refine s_icmp_ne (t := 613) kx_197_598 (by decide) (fun hc184 => ?_) (fun hc184 => ?_)
                    · refine s_aload_n kx_197_613 rfl ?_
                      refine s_callV2 (k := 63) (s1 := 1) (s2 := 0) (as := []) (rest := []) kx_197_614 kp_197_286 (Or.inl rfl) rfl (tk_63 hT) ki_180 kcl_180 rfl rfl (by decide) (m_180 (d := d) hT hI172) (kV (fun M186 hI186 fr186 v185p => ?_))
                      have hFm186 := hFm172.call fr186 rfl
                      have tr187 := (fr186 63 9 rfl)
                      have tr188 := (fr186 63 35 rfl)
                      have tr189 := (fr186 63 42 rfl)
                      have tr190 := (fr186 63 43 rfl)
                      have tr191 := (fr186 63 45 rfl)
                      have tr192 := rg_63_9 hI186
                      refine s_iconst (v := 1) kx_197_617 (by decide) ?_
                      have hk193 : M186 63 9 = v11 := ((fr186 63 9 rfl).trans ((u172.2 63 9 (by omega)).trans ((u161.2 63 9 (by omega)).trans ((fr151 63 9 rfl).trans v11e))))
                      exact s_iret kx_197_618 (Or.inr ⟨kq_197, by omega⟩) ⟨_, _, rfl, rfl, hI186, hFm186, ⟨by omega, by omega, (show LXp M186 from v185p.2), (by omega), (by omega), ⟨(Or.inr (Or.inr ⟨rfl, by omega, Or.inr ⟨((fr186 63 46 rfl).trans ((u172.2 63 46 (by omega)).trans ((u161.2 63 46 (by omega)).trans ((fr151 63 46 rfl).trans (fr2 63 46 rfl))))), (B0.fr (B0.up (show B0 M161 from hcl170.2.1) u172 (by decide)) fr186 rfl (fun _ => rfl)), PI.to7 (PI.fr hP183 fr186 rfl) (by omega)⟩⟩)), (KP.fr (KP.up (KP.up hK160 u161 (by decide)) u172 (by decide)) fr186 (fun _ => rfl))⟩⟩⟩
                    · refine s_aload_n kx_197_601 rfl ?_
                      refine r_getR (k := 63) (f := 38) (k2 := 86) kx_197_602 kp_197_127 (tk_63 hT) kf_12_38 (by decide) (rq_63_38 hI172) ?_
                      refine s_aload_n kx_197_605 rfl ?_
                      refine r_getK (k := 63) (f := 42) kx_197_606 kp_197_140 (tk_63 hT) kf_12_42 (fun _ => rfl) ((u172.2 63 42 (by omega)).trans u161.1) ?_
                      refine s_iconst (v := 1) kx_197_609 (by decide) ?_
                      refine r_sub kx_197_610 ⟨by omega, by omega⟩ ?_
                      refine s_iconst (v := 2) kx_197_611 (by decide) ?_
                      refine r_ast (k := 86) kx_197_612 (tk_86 hT) ⟨by omega, by omega⟩ hI172 (ru_86 (by omega) (by omega)) (fun M194 hI194 u194 => ?_)
                      have hFm194 := hFm172.up u194 rfl
                      have tr195 := (u194.2 63 3 (by omega))
                      have tr196 := (u194.2 63 4 (by omega))
                      have tr197 := (u194.2 63 5 (by omega))
                      have tr198 := (u194.2 63 9 (by omega))
                      have tr199 := (u194.2 63 35 (by omega))
                      have tr200 := (u194.2 63 42 (by omega))
                      have tr201 := (u194.2 63 43 (by omega))
                      have tr202 := (u194.2 63 45 (by omega))
                      refine s_aload_n kx_197_613 rfl ?_
                      refine s_callV2 (k := 63) (s1 := 1) (s2 := 0) (as := []) (rest := []) kx_197_614 kp_197_286 (Or.inl rfl) rfl (tk_63 hT) ki_180 kcl_180 rfl rfl (by decide) (m_180 (d := d) hT hI194) (kV (fun M204 hI204 fr204 v203p => ?_))
                      have hFm204 := hFm194.call fr204 rfl
                      have tr205 := (fr204 63 9 rfl)
                      have tr206 := (fr204 63 35 rfl)
                      have tr207 := (fr204 63 42 rfl)
                      have tr208 := (fr204 63 43 rfl)
                      have tr209 := (fr204 63 45 rfl)
                      have tr210 := rg_63_9 hI204
                      refine s_iconst (v := 1) kx_197_617 (by decide) ?_
                      have hk211 : M204 63 9 = v11 := ((fr204 63 9 rfl).trans ((u194.2 63 9 (by omega)).trans ((u172.2 63 9 (by omega)).trans ((u161.2 63 9 (by omega)).trans ((fr151 63 9 rfl).trans v11e)))))
                      exact s_iret kx_197_618 (Or.inr ⟨kq_197, by omega⟩) ⟨_, _, rfl, rfl, hI204, hFm204, ⟨by omega, by omega, (show LXp M204 from v203p.2), (by omega), (by omega), ⟨(Or.inr (Or.inr ⟨rfl, by omega, Or.inr ⟨((fr204 63 46 rfl).trans ((u194.2 63 46 (by omega)).trans ((u172.2 63 46 (by omega)).trans ((u161.2 63 46 (by omega)).trans ((fr151 63 46 rfl).trans (fr2 63 46 rfl)))))), (B0.fr (B0.up (B0.up (show B0 M161 from hcl170.2.1) u172 (by decide)) u194 ⟨by decide, Or.inl (by decide)⟩) fr204 rfl (fun _ => rfl)), PI.to7 (PI.fr (PI.phase hP183 (Or.inl (by decide)) (by omega) u194) fr204 rfl) (by omega)⟩⟩)), (KP.fr (KP.up (KP.up (KP.up hK160 u161 (by decide)) u172 (by decide)) u194 (by decide)) fr204 (fun _ => rfl))⟩⟩⟩
                  · refine s_aload_n kx_197_585 rfl ?_
                    refine s_aload_n kx_197_586 rfl ?_
                    refine r_getR (k := 63) (f := 40) (k2 := 88) kx_197_587 kp_197_134 (tk_63 hT) kf_12_40 (by decide) (rq_63_40 hI172) ?_
                    refine s_iload_n kx_197_590 rfl ?_
                    refine r_ald (k := 88) kx_197_591 (tk_88 hT) ⟨by omega, by omega⟩ (rg_88 hI172) (fun v212 v212e v212a v212b => ?_)
                    have hpr213 : v212 = M151 88 ((v13 - 1)).toNat := (v212e).symm.trans ((u172.2 88 _ (by omega)).trans (u161.2 88 _ (by omega)))
                    refine s_iconst (v := 0) kx_197_592 (by decide) ?_
                    refine s_callV2 (k := 63) (s1 := 3) (s2 := 0) (as := [(0, 0), (0, v212)]) (rest := []) kx_197_593 kp_197_352 (Or.inl rfl) rfl (tk_63 hT) ki_189 kcl_189 rfl rfl (by decide) (m_189 (d := d + 1) (sort := v212) (v_ := 0) hT hI172 (by omega) (by omega)) (kV (fun M215 hI215 fr215 v214p => ?_))
                    have hFm215 := hFm172.call fr215 rfl
                    have tr216 := (fr215 63 3 rfl)
                    have tr217 := (fr215 63 4 rfl)
                    have tr218 := (fr215 63 5 rfl)
                    have tr219 := (fr215 63 9 rfl)
                    have tr220 := (fr215 63 42 rfl)
                    have tr221 := (fr215 63 43 rfl)
                    have tr222 := (fr215 63 45 rfl)
                    have tr223 := rg_63_9 hI215
                    have hP224 := PI.code4 hP181 (by omega) (hcl170.2.2.2 (by omega)) fr215 v214p.1 (v214p.2.1.trans hpr213) v214p.2.2
                    have hK225 := KP.add (KP.up (KP.up hK160 u161 (by decide)) u172 (by decide)) ((u172.2 63 36 (by omega)).trans ((u161.2 63 36 (by omega)).trans ((fr151 63 36 rfl).trans (fr2 63 36 rfl)))) ⟨(rg_63_35 hI172).1, by omega⟩ (rg_63_36 hI172).1 v214p.2.2
                    refine s_iload_n kx_197_596 rfl ?_
                    refine s_iconst (v := 5) kx_197_597 (by decide) ?_
                    refine s_icmp_ne (t := 613) kx_197_598 (by decide) (fun hc226 => ?_) (fun hc226 => absurd hc226 (by omega))
                    refine s_aload_n kx_197_613 rfl ?_
                    refine s_callV2 (k := 63) (s1 := 1) (s2 := 0) (as := []) (rest := []) kx_197_614 kp_197_286 (Or.inl rfl) rfl (tk_63 hT) ki_180 kcl_180 rfl rfl (by decide) (m_180 (d := d) hT hI215) (kV (fun M228 hI228 fr228 v227p => ?_))
                    have hFm228 := hFm215.call fr228 rfl
                    have tr229 := (fr228 63 9 rfl)
                    have tr230 := (fr228 63 35 rfl)
                    have tr231 := (fr228 63 42 rfl)
                    have tr232 := (fr228 63 43 rfl)
                    have tr233 := (fr228 63 45 rfl)
                    have tr234 := rg_63_9 hI228
                    refine s_iconst (v := 1) kx_197_617 (by decide) ?_
                    have hk235 : M228 63 9 = v11 := ((fr228 63 9 rfl).trans ((fr215 63 9 rfl).trans ((u172.2 63 9 (by omega)).trans ((u161.2 63 9 (by omega)).trans ((fr151 63 9 rfl).trans v11e)))))
                    exact s_iret kx_197_618 (Or.inr ⟨kq_197, by omega⟩) ⟨_, _, rfl, rfl, hI228, hFm228, ⟨by omega, by omega, (show LXp M228 from v227p.2), (by omega), (by omega), ⟨(Or.inr (Or.inr ⟨rfl, by omega, Or.inr ⟨((fr228 63 46 rfl).trans ((fr215 63 46 rfl).trans ((u172.2 63 46 (by omega)).trans ((u161.2 63 46 (by omega)).trans ((fr151 63 46 rfl).trans (fr2 63 46 rfl)))))), (B0.fr (B0.fr (B0.up (show B0 M161 from hcl170.2.1) u172 (by decide)) fr215 rfl (fun _ => rfl)) fr228 rfl (fun _ => rfl)), PI.to7 (PI.fr hP224 fr228 rfl) (by omega)⟩⟩)), (KP.fr hK225 fr228 (fun _ => rfl))⟩⟩⟩
                · replace v147p := v147p.resolve_left (by omega)
                  refine s_aload_n kx_197_537 rfl ?_
                  refine s_iconst (v := 1) kx_197_538 (by decide) ?_
                  refine s_aload_n kx_197_539 rfl ?_
                  refine r_getI (k := 63) (f := 4) kx_197_540 kp_197_23 (tk_63 hT) kf_12_4 (fun _ => rfl) (rg_63_4 hI2) (fun v236 v236e v236a v236b => ?_)
                  have v236z : M 63 4 = v236 := ((fr2 63 4 rfl)).symm.trans v236e
                  refine s_callV2 (k := 63) (s1 := 3) (s2 := 0) (as := [(0, v236), (0, 1)]) (rest := []) kx_197_543 kp_197_263 (Or.inl rfl) rfl (tk_63 hT) ki_176 kcl_176 rfl rfl (by decide) (m_176 (d := d + 1) (kind := 1) (place := v236) hT hI2 (by omega)) (kV (fun M238 hI238 fr238 v237p => ?_))
                  have hFm238 := hFm2.call fr238 rfl
                  have tr239 := (fr238 63 3 rfl)
                  have tr240 := (fr238 63 4 rfl)
                  have tr241 := (fr238 63 5 rfl)
                  have tr242 := (fr238 63 35 rfl)
                  have tr243 := (fr238 63 42 rfl)
                  have tr244 := (fr238 63 43 rfl)
                  have tr245 := (fr238 63 45 rfl)
                  have tr246 := rg_63_9 hI238
                  refine s_aload_n kx_197_546 rfl ?_
                  refine r_getI (k := 63) (f := 9) kx_197_547 kp_197_39 (tk_63 hT) kf_12_9 (fun _ => rfl) (rg_63_9 hI238) (fun v247 v247e v247a v247b => ?_)
                  refine s_if_le (t := 555) kx_197_550 (by decide) (fun hc248 => ?_) (fun hc248 => ?_)
                  · refine s_aload_n kx_197_555 rfl ?_
                    refine s_iconst (v := 1) kx_197_556 (by decide) ?_
                    refine s_callV2 (k := 63) (s1 := 2) (s2 := 0) (as := [(0, 1)]) (rest := []) kx_197_557 kp_197_370 (Or.inl rfl) rfl (tk_63 hT) ki_191 kcl_191 rfl rfl (by decide) (m_191 (d := d) (least := 1) hT hI238 (PI.fr (PI.fr hP fr2 rfl) fr238 rfl) (by omega) (by omega) (by omega)) (kV (fun M250 hI250 fr250 v249p => ?_))
                    have hFm250 := hFm238.call fr250 rfl
                    have tr251 := (fr250 63 3 rfl)
                    have tr252 := (fr250 63 4 rfl)
                    have tr253 := (fr250 63 5 rfl)
                    have tr254 := (fr250 63 9 rfl)
                    have tr255 := (fr250 63 42 rfl)
                    have tr256 := rg_63_9 hI250
                    have hd257 := PI.deep v249p.1
                    have hs258 := PI.small v249p.1 (rg_63_43 hI250).2 (by decide)
                    have hs258a := hs258.1
                    have hs258b := hs258.2.1
                    have hs258c := rg_63_45 hI250
                    have hK259 := KP.trans (KP.fr (KP.fr (KP.refl (M := M)) fr2 (fun _ => rfl)) fr238 (fun _ => rfl)) ((fr238 63 36 rfl).trans (fr2 63 36 rfl)) v249p.2
                    refine s_aload_n kx_197_560 rfl ?_
                    refine s_dup kx_197_561 rfl ?_
                    refine r_getK (k := 63) (f := 42) kx_197_562 kp_197_140 (tk_63 hT) kf_12_42 (fun _ => rfl) ((fr250 63 42 rfl).trans ((fr238 63 42 rfl).trans v13e)) ?_
                    refine s_iconst (v := 1) kx_197_565 (by decide) ?_
                    refine r_sub kx_197_566 ⟨by omega, by omega⟩ ?_
                    refine r_put (k := 63) (f := 42) kx_197_567 kp_197_140 (tk_63 hT) kf_12_42 rfl (by decide) (by decide) hI250 (ru_63_42 (by omega) (by omega)) (fun M260 hI260 u260 => ?_)
                    have hFm260 := hFm250.up u260 rfl
                    have tr261 := (u260.2 63 3 (by omega))
                    have tr262 := (u260.2 63 4 (by omega))
                    have tr263 := (u260.2 63 5 (by omega))
                    have tr264 := (u260.2 63 9 (by omega))
                    have tr265 := (u260.2 63 35 (by omega))
                    have tr266 := u260.1
                    have tr267 := (u260.2 63 43 (by omega))
                    have tr268 := (u260.2 63 45 (by omega))
                    have hcl269 := PI.close v249p.1 (by decide) (f := (v13 - 1)) (by omega) ((fr250 85 _ rfl).trans ((fr238 85 _ rfl).trans v14e)) (by omega) u260 (by omega)
                    have hcl269d := hcl269.2.2.1
                    have hcl269q := PI.deep hcl269.1
                    refine s_aload_n kx_197_570 rfl ?_
                    refine s_dup kx_197_571 rfl ?_
                    refine r_getI (k := 63) (f := 43) kx_197_572 kp_197_143 (tk_63 hT) kf_12_43 (fun _ => rfl) (rg_63_43 hI260) (fun v270 v270e v270a v270b => ?_)
                    refine s_iconst (v := 1) kx_197_575 (by decide) ?_
                    refine r_sub kx_197_576 ⟨by omega, by omega⟩ ?_
                    have hcl269e := PI.e_le hcl269.1
                    refine r_put (k := 63) (f := 43) kx_197_577 kp_197_143 (tk_63 hT) kf_12_43 rfl (by decide) (by decide) hI260 (ru_63_43 (by omega) (by omega)) (fun M271 hI271 u271 => ?_)
                    have hFm271 := hFm260.up u271 rfl
                    have tr272 := (u271.2 63 3 (by omega))
                    have tr273 := (u271.2 63 4 (by omega))
                    have tr274 := (u271.2 63 5 (by omega))
                    have tr275 := (u271.2 63 9 (by omega))
                    have tr276 := (u271.2 63 35 (by omega))
                    have tr277 := (u271.2 63 42 (by omega))
                    have tr278 := u271.1
                    have tr279 := (u271.2 63 45 (by omega))
                    have hP280 := (PI.opn (e' := 0) hcl269.1 u271 (by omega))
                    refine s_iload_n kx_197_580 rfl ?_
                    refine s_iconst (v := 4) kx_197_581 (by decide) ?_
                    refine s_icmp_ne (t := 596) kx_197_582 (by decide) (fun hc281 => ?_) (fun hc281 => ?_)
                    · have hP282 := PI.comp0 hP280 (by omega)
                      refine s_iload_n kx_197_596 rfl ?_
                      refine s_iconst (v := 5) kx_197_597 (by decide) ?_
                      refine s_icmp_ne (t := 613) kx_197_598 (by decide) (fun hc283 => ?_) (fun hc283 => ?_)
                      · refine s_aload_n kx_197_613 rfl ?_
                        refine s_callV2 (k := 63) (s1 := 1) (s2 := 0) (as := []) (rest := []) kx_197_614 kp_197_286 (Or.inl rfl) rfl (tk_63 hT) ki_180 kcl_180 rfl rfl (by decide) (m_180 (d := d) hT hI271) (kV (fun M285 hI285 fr285 v284p => ?_))
                        have hFm285 := hFm271.call fr285 rfl
                        have tr286 := (fr285 63 9 rfl)
                        have tr287 := (fr285 63 35 rfl)
                        have tr288 := (fr285 63 42 rfl)
                        have tr289 := (fr285 63 43 rfl)
                        have tr290 := (fr285 63 45 rfl)
                        have tr291 := rg_63_9 hI285
                        refine s_iconst (v := 1) kx_197_617 (by decide) ?_
                        have hk292 : M285 63 9 = v247 := ((fr285 63 9 rfl).trans ((u271.2 63 9 (by omega)).trans ((u260.2 63 9 (by omega)).trans ((fr250 63 9 rfl).trans v247e))))
                        exact s_iret kx_197_618 (Or.inr ⟨kq_197, by omega⟩) ⟨_, _, rfl, rfl, hI285, hFm285, ⟨by omega, by omega, (show LXp M285 from v284p.2), (by omega), (by omega), ⟨(Or.inr (Or.inr ⟨rfl, by omega, Or.inr ⟨((fr285 63 46 rfl).trans ((u271.2 63 46 (by omega)).trans ((u260.2 63 46 (by omega)).trans ((fr250 63 46 rfl).trans ((fr238 63 46 rfl).trans (fr2 63 46 rfl)))))), (B0.fr (B0.up (show B0 M260 from hcl269.2.1) u271 (by decide)) fr285 rfl (fun _ => rfl)), PI.to7 (PI.fr hP282 fr285 rfl) (by omega)⟩⟩)), (KP.fr (KP.up (KP.up hK259 u260 (by decide)) u271 (by decide)) fr285 (fun _ => rfl))⟩⟩⟩
                      · refine s_aload_n kx_197_601 rfl ?_
                        refine r_getR (k := 63) (f := 38) (k2 := 86) kx_197_602 kp_197_127 (tk_63 hT) kf_12_38 (by decide) (rq_63_38 hI271) ?_
                        refine s_aload_n kx_197_605 rfl ?_
                        refine r_getK (k := 63) (f := 42) kx_197_606 kp_197_140 (tk_63 hT) kf_12_42 (fun _ => rfl) ((u271.2 63 42 (by omega)).trans u260.1) ?_
                        refine s_iconst (v := 1) kx_197_609 (by decide) ?_
                        refine r_sub kx_197_610 ⟨by omega, by omega⟩ ?_
                        refine s_iconst (v := 2) kx_197_611 (by decide) ?_
                        refine r_ast (k := 86) kx_197_612 (tk_86 hT) ⟨by omega, by omega⟩ hI271 (ru_86 (by omega) (by omega)) (fun M293 hI293 u293 => ?_)
                        have hFm293 := hFm271.up u293 rfl
                        have tr294 := (u293.2 63 3 (by omega))
                        have tr295 := (u293.2 63 4 (by omega))
                        have tr296 := (u293.2 63 5 (by omega))
                        have tr297 := (u293.2 63 9 (by omega))
                        have tr298 := (u293.2 63 35 (by omega))
                        have tr299 := (u293.2 63 42 (by omega))
                        have tr300 := (u293.2 63 43 (by omega))
                        have tr301 := (u293.2 63 45 (by omega))
                        refine s_aload_n kx_197_613 rfl ?_
                        refine s_callV2 (k := 63) (s1 := 1) (s2 := 0) (as := []) (rest := []) kx_197_614 kp_197_286 (Or.inl rfl) rfl (tk_63 hT) ki_180 kcl_180 rfl rfl (by decide) (m_180 (d := d) hT hI293) (kV (fun M303 hI303 fr303 v302p => ?_))
                        have hFm303 := hFm293.call fr303 rfl
                        have tr304 := (fr303 63 9 rfl)
                        have tr305 := (fr303 63 35 rfl)
                        have tr306 := (fr303 63 42 rfl)
                        have tr307 := (fr303 63 43 rfl)
                        have tr308 := (fr303 63 45 rfl)
                        have tr309 := rg_63_9 hI303
                        refine s_iconst (v := 1) kx_197_617 (by decide) ?_
                        have hk310 : M303 63 9 = v247 := ((fr303 63 9 rfl).trans ((u293.2 63 9 (by omega)).trans ((u271.2 63 9 (by omega)).trans ((u260.2 63 9 (by omega)).trans ((fr250 63 9 rfl).trans v247e)))))
                        exact s_iret kx_197_618 (Or.inr ⟨kq_197, by omega⟩) ⟨_, _, rfl, rfl, hI303, hFm303, ⟨by omega, by omega, (show LXp M303 from v302p.2), (by omega), (by omega), ⟨(Or.inr (Or.inr ⟨rfl, by omega, Or.inr ⟨((fr303 63 46 rfl).trans ((u293.2 63 46 (by omega)).trans ((u271.2 63 46 (by omega)).trans ((u260.2 63 46 (by omega)).trans ((fr250 63 46 rfl).trans ((fr238 63 46 rfl).trans (fr2 63 46 rfl))))))), (B0.fr (B0.up (B0.up (show B0 M260 from hcl269.2.1) u271 (by decide)) u293 ⟨by decide, Or.inl (by decide)⟩) fr303 rfl (fun _ => rfl)), PI.to7 (PI.fr (PI.phase hP282 (Or.inl (by decide)) (by omega) u293) fr303 rfl) (by omega)⟩⟩)), (KP.fr (KP.up (KP.up (KP.up hK259 u260 (by decide)) u271 (by decide)) u293 (by decide)) fr303 (fun _ => rfl))⟩⟩⟩
                    · refine s_aload_n kx_197_585 rfl ?_
                      refine s_aload_n kx_197_586 rfl ?_
                      refine r_getR (k := 63) (f := 40) (k2 := 88) kx_197_587 kp_197_134 (tk_63 hT) kf_12_40 (by decide) (rq_63_40 hI271) ?_
                      refine s_iload_n kx_197_590 rfl ?_
                      refine r_ald (k := 88) kx_197_591 (tk_88 hT) ⟨by omega, by omega⟩ (rg_88 hI271) (fun v311 v311e v311a v311b => ?_)
                      have hpr312 : v311 = M250 88 ((v13 - 1)).toNat := (v311e).symm.trans ((u271.2 88 _ (by omega)).trans (u260.2 88 _ (by omega)))
                      refine s_iconst (v := 0) kx_197_592 (by decide) ?_
                      refine s_callV2 (k := 63) (s1 := 3) (s2 := 0) (as := [(0, 0), (0, v311)]) (rest := []) kx_197_593 kp_197_352 (Or.inl rfl) rfl (tk_63 hT) ki_189 kcl_189 rfl rfl (by decide) (m_189 (d := d + 1) (sort := v311) (v_ := 0) hT hI271 (by omega) (by omega)) (kV (fun M314 hI314 fr314 v313p => ?_))
                      have hFm314 := hFm271.call fr314 rfl
                      have tr315 := (fr314 63 3 rfl)
                      have tr316 := (fr314 63 4 rfl)
                      have tr317 := (fr314 63 5 rfl)
                      have tr318 := (fr314 63 9 rfl)
                      have tr319 := (fr314 63 42 rfl)
                      have tr320 := (fr314 63 43 rfl)
                      have tr321 := (fr314 63 45 rfl)
                      have tr322 := rg_63_9 hI314
                      have hP323 := PI.code4 hP280 (by omega) (hcl269.2.2.2 (by omega)) fr314 v313p.1 (v313p.2.1.trans hpr312) v313p.2.2
                      have hK324 := KP.add (KP.up (KP.up hK259 u260 (by decide)) u271 (by decide)) ((u271.2 63 36 (by omega)).trans ((u260.2 63 36 (by omega)).trans ((fr250 63 36 rfl).trans ((fr238 63 36 rfl).trans (fr2 63 36 rfl))))) ⟨(rg_63_35 hI271).1, by omega⟩ (rg_63_36 hI271).1 v313p.2.2
                      refine s_iload_n kx_197_596 rfl ?_
                      refine s_iconst (v := 5) kx_197_597 (by decide) ?_
                      refine s_icmp_ne (t := 613) kx_197_598 (by decide) (fun hc325 => ?_) (fun hc325 => absurd hc325 (by omega))
                      refine s_aload_n kx_197_613 rfl ?_
                      refine s_callV2 (k := 63) (s1 := 1) (s2 := 0) (as := []) (rest := []) kx_197_614 kp_197_286 (Or.inl rfl) rfl (tk_63 hT) ki_180 kcl_180 rfl rfl (by decide) (m_180 (d := d) hT hI314) (kV (fun M327 hI327 fr327 v326p => ?_))
                      have hFm327 := hFm314.call fr327 rfl
                      have tr328 := (fr327 63 9 rfl)
                      have tr329 := (fr327 63 35 rfl)
                      have tr330 := (fr327 63 42 rfl)
                      have tr331 := (fr327 63 43 rfl)
                      have tr332 := (fr327 63 45 rfl)
                      have tr333 := rg_63_9 hI327
                      refine s_iconst (v := 1) kx_197_617 (by decide) ?_
                      have hk334 : M327 63 9 = v247 := ((fr327 63 9 rfl).trans ((fr314 63 9 rfl).trans ((u271.2 63 9 (by omega)).trans ((u260.2 63 9 (by omega)).trans ((fr250 63 9 rfl).trans v247e)))))
                      exact s_iret kx_197_618 (Or.inr ⟨kq_197, by omega⟩) ⟨_, _, rfl, rfl, hI327, hFm327, ⟨by omega, by omega, (show LXp M327 from v326p.2), (by omega), (by omega), ⟨(Or.inr (Or.inr ⟨rfl, by omega, Or.inr ⟨((fr327 63 46 rfl).trans ((fr314 63 46 rfl).trans ((u271.2 63 46 (by omega)).trans ((u260.2 63 46 (by omega)).trans ((fr250 63 46 rfl).trans ((fr238 63 46 rfl).trans (fr2 63 46 rfl))))))), (B0.fr (B0.fr (B0.up (show B0 M260 from hcl269.2.1) u271 (by decide)) fr314 rfl (fun _ => rfl)) fr327 rfl (fun _ => rfl)), PI.to7 (PI.fr hP323 fr327 rfl) (by omega)⟩⟩)), (KP.fr hK324 fr327 (fun _ => rfl))⟩⟩⟩
                  · refine s_iconst (v := 0) kx_197_553 (by decide) ?_
                    have hk335 : M238 63 4 = v236 := ((fr238 63 4 rfl).trans v236e)
                    have hk336 : M238 63 9 = v247 := v247e
                    exact s_iret kx_197_554 (Or.inr ⟨kq_197, by omega⟩) ⟨_, _, rfl, rfl, hI238, hFm238, ⟨by omega, by omega, (LXp.fr (LXp.fr hX fr2 rfl) fr238 rfl), (by omega), (by omega), ⟨(Or.inl (by omega)), (KP.fr (KP.fr (KP.refl (M := M)) fr2 (fun _ => rfl)) fr238 (fun _ => rfl))⟩⟩⟩
              refine s_icmp_ne (t := 529) kx_197_521 (by decide) (fun hc140 => ?_) (fun hc140 => ?_)
              · have hJ141 : Fr fS_197_j521 M2 M2 := Fr.refl
                refine s_bipush (v := 41) kx_197_529 (by decide) ?_
                exact cP.wk (lS1 rfl (lS1 rfl (lS1 rfl lS0))) (jn144 41 (by omega) (by omega))
              · have hJ142 : Fr fS_197_j521 M2 M2 := Fr.refl
                refine s_bipush (v := 93) kx_197_524 (by decide) ?_
                refine s_goto (t := 531) kx_197_526 (by decide) ?_
                exact cP.wk (lS1 rfl (lS1 rfl (lS1 rfl lS0))) (jn144 93 (by omega) (by omega))
            · refine s_aload_n kx_197_452 rfl ?_
              refine s_bipush (v := 44) kx_197_453 (by decide) ?_
              refine s_callV2 (k := 63) (s1 := 2) (s2 := 0) (as := [(0, 44)]) (rest := []) kx_197_455 kp_197_283 (Or.inl rfl) rfl (tk_63 hT) ki_181 kcl_181 rfl rfl (by decide) (m_181 (d := d + 1) (c := 44) hT hI2) (kF (fun v337 v337p => ?_))
              refine s_if_ne (t := 470) kx_197_458 (by decide) (fun hc338 => ?_) (fun hc338 => ?_)
              · replace v337p := v337p.resolve_right (by omega)
                refine s_aload_n kx_197_470 rfl ?_
                refine r_getK (k := 63) (f := 9) kx_197_471 kp_197_39 (tk_63 hT) kf_12_9 (fun _ => rfl) v11e ?_
                refine s_if_le (t := 479) kx_197_474 (by decide) (fun hc339 => ?_) (fun hc339 => absurd hc339 (by omega))
                refine s_aload_n kx_197_479 rfl ?_
                refine s_iconst (v := 1) kx_197_480 (by decide) ?_
                refine s_callV2 (k := 63) (s1 := 2) (s2 := 0) (as := [(0, 1)]) (rest := []) kx_197_481 kp_197_370 (Or.inl rfl) rfl (tk_63 hT) ki_191 kcl_191 rfl rfl (by decide) (m_191 (d := d) (least := 1) hT hI2 (PI.fr hP fr2 rfl) (by omega) (by omega) (by omega)) (kV (fun M341 hI341 fr341 v340p => ?_))
                have hFm341 := hFm2.call fr341 rfl
                have tr342 := (fr341 63 3 rfl)
                have tr343 := (fr341 63 4 rfl)
                have tr344 := (fr341 63 5 rfl)
                have tr345 := (fr341 63 9 rfl)
                have tr346 := (fr341 63 42 rfl)
                have tr347 := rg_63_9 hI341
                have hd348 := PI.deep v340p.1
                have hs349 := PI.small v340p.1 (rg_63_43 hI341).2 (by decide)
                have hs349a := hs349.1
                have hs349b := hs349.2.1
                have hs349c := rg_63_45 hI341
                have hK350 := KP.trans (KP.fr (KP.refl (M := M)) fr2 (fun _ => rfl)) (fr2 63 36 rfl) v340p.2
                have hk85351 : M341 85 ((v13 - 1)).toNat = v14 := ((fr341 85 _ rfl).trans v14e)
                refine s_aload_n kx_197_484 rfl ?_
                refine r_getR (k := 63) (f := 37) (k2 := 85) kx_197_485 kp_197_124 (tk_63 hT) kf_12_37 (by decide) (rq_63_37 hI341) ?_
                refine s_iload_n kx_197_488 rfl ?_
                refine s_iload_n kx_197_489 rfl ?_
                refine s_iconst (v := 3) kx_197_490 (by decide) ?_
                refine s_icmp_ne (t := 498) kx_197_491 (by decide) (fun hc352 => ?_) (fun hc352 => absurd hc352 (by omega))
                refine s_iconst (v := 3) kx_197_498 (by decide) ?_
                refine r_ast (k := 85) kx_197_499 (tk_85 hT) ⟨by omega, by omega⟩ hI341 (ru_85 (by omega) (by omega)) (fun M353 hI353 u353 => ?_)
                have hFm353 := hFm341.up u353 rfl
                have tr354 := (u353.2 63 3 (by omega))
                have tr355 := (u353.2 63 4 (by omega))
                have tr356 := (u353.2 63 5 (by omega))
                have tr357 := (u353.2 63 9 (by omega))
                have tr358 := (u353.2 63 35 (by omega))
                have tr359 := (u353.2 63 42 (by omega))
                have tr360 := (u353.2 63 43 (by omega))
                have tr361 := (u353.2 63 45 (by omega))
                refine s_aload_n kx_197_500 rfl ?_
                refine r_getR (k := 63) (f := 38) (k2 := 86) kx_197_501 kp_197_127 (tk_63 hT) kf_12_38 (by decide) (rq_63_38 hI353) ?_
                refine s_iload_n kx_197_504 rfl ?_
                refine s_iconst (v := 0) kx_197_505 (by decide) ?_
                refine r_ast (k := 86) kx_197_506 (tk_86 hT) ⟨by omega, by omega⟩ hI353 (ru_86 (by omega) (by omega)) (fun M362 hI362 u362 => ?_)
                have hFm362 := hFm353.up u362 rfl
                have tr363 := (u362.2 63 3 (by omega))
                have tr364 := (u362.2 63 4 (by omega))
                have tr365 := (u362.2 63 5 (by omega))
                have tr366 := (u362.2 63 9 (by omega))
                have tr367 := (u362.2 63 35 (by omega))
                have tr368 := (u362.2 63 42 (by omega))
                have tr369 := (u362.2 63 43 (by omega))
                have tr370 := (u362.2 63 45 (by omega))
                refine s_aload_n kx_197_507 rfl ?_
                refine s_callV2 (k := 63) (s1 := 1) (s2 := 0) (as := []) (rest := []) kx_197_508 kp_197_286 (Or.inl rfl) rfl (tk_63 hT) ki_180 kcl_180 rfl rfl (by decide) (m_180 (d := d) hT hI362) (kV (fun M372 hI372 fr372 v371p => ?_))
                have hFm372 := hFm362.call fr372 rfl
                have tr373 := (fr372 63 9 rfl)
                have tr374 := (fr372 63 35 rfl)
                have tr375 := (fr372 63 42 rfl)
                have tr376 := (fr372 63 43 rfl)
                have tr377 := (fr372 63 45 rfl)
                have tr378 := rg_63_9 hI372
                refine s_aload_n kx_197_511 rfl ?_
                refine s_iconst (v := 0) kx_197_512 (by decide) ?_
                refine r_put (k := 63) (f := 46) kx_197_513 kp_197_152 (tk_63 hT) kf_12_46 rfl (by decide) (by decide) hI372 (ru_63_46 (by omega) (by omega)) (fun M379 hI379 u379 => ?_)
                have hFm379 := hFm372.up u379 rfl
                have tr380 := (u379.2 63 3 (by omega))
                have tr381 := (u379.2 63 4 (by omega))
                have tr382 := (u379.2 63 5 (by omega))
                have tr383 := (u379.2 63 9 (by omega))
                have tr384 := (u379.2 63 35 (by omega))
                have tr385 := (u379.2 63 42 (by omega))
                have tr386 := (u379.2 63 43 (by omega))
                have tr387 := (u379.2 63 45 (by omega))
                refine s_iconst (v := 1) kx_197_516 (by decide) ?_
                have hk388 : M379 63 9 = v11 := ((u379.2 63 9 (by omega)).trans ((fr372 63 9 rfl).trans ((u362.2 63 9 (by omega)).trans ((u353.2 63 9 (by omega)).trans ((fr341 63 9 rfl).trans v11e)))))
                exact s_iret kx_197_517 (Or.inr ⟨kq_197, by omega⟩) ⟨_, _, rfl, rfl, hI379, hFm379, ⟨by omega, by omega, (LXp.up (show LXp M372 from v371p.2) u379 (by decide)), (by omega), (by omega), ⟨(Or.inr (Or.inr ⟨rfl, by omega, Or.inl ⟨u379.1, PI.to7 (PI.fr (PI.fr (PI.phase (PI.comma v340p.1 (by omega) (by omega) u353) (Or.inr (by omega)) (by omega) u362) fr372 rfl) (Up.fr u379) rfl) (by omega)⟩⟩)), (KP.up (KP.fr (KP.up (KP.up hK350 u353 (by decide)) u362 (by decide)) fr372 (fun _ => rfl)) u379 (by decide))⟩⟩⟩
              · replace v337p := v337p.resolve_left (by omega)
                refine s_aload_n kx_197_461 rfl ?_
                refine s_iconst (v := 1) kx_197_462 (by decide) ?_
                refine s_aload_n kx_197_463 rfl ?_
                refine r_getI (k := 63) (f := 4) kx_197_464 kp_197_23 (tk_63 hT) kf_12_4 (fun _ => rfl) (rg_63_4 hI2) (fun v389 v389e v389a v389b => ?_)
                have v389z : M 63 4 = v389 := ((fr2 63 4 rfl)).symm.trans v389e
                refine s_callV2 (k := 63) (s1 := 3) (s2 := 0) (as := [(0, v389), (0, 1)]) (rest := []) kx_197_467 kp_197_263 (Or.inl rfl) rfl (tk_63 hT) ki_176 kcl_176 rfl rfl (by decide) (m_176 (d := d + 1) (kind := 1) (place := v389) hT hI2 (by omega)) (kV (fun M391 hI391 fr391 v390p => ?_))
                have hFm391 := hFm2.call fr391 rfl
                have tr392 := (fr391 63 3 rfl)
                have tr393 := (fr391 63 4 rfl)
                have tr394 := (fr391 63 5 rfl)
                have tr395 := (fr391 63 35 rfl)
                have tr396 := (fr391 63 42 rfl)
                have tr397 := (fr391 63 43 rfl)
                have tr398 := (fr391 63 45 rfl)
                have tr399 := rg_63_9 hI391
                refine s_aload_n kx_197_470 rfl ?_
                refine r_getI (k := 63) (f := 9) kx_197_471 kp_197_39 (tk_63 hT) kf_12_9 (fun _ => rfl) (rg_63_9 hI391) (fun v400 v400e v400a v400b => ?_)
                refine s_if_le (t := 479) kx_197_474 (by decide) (fun hc401 => ?_) (fun hc401 => ?_)
                · refine s_aload_n kx_197_479 rfl ?_
                  refine s_iconst (v := 1) kx_197_480 (by decide) ?_
                  refine s_callV2 (k := 63) (s1 := 2) (s2 := 0) (as := [(0, 1)]) (rest := []) kx_197_481 kp_197_370 (Or.inl rfl) rfl (tk_63 hT) ki_191 kcl_191 rfl rfl (by decide) (m_191 (d := d) (least := 1) hT hI391 (PI.fr (PI.fr hP fr2 rfl) fr391 rfl) (by omega) (by omega) (by omega)) (kV (fun M403 hI403 fr403 v402p => ?_))
                  have hFm403 := hFm391.call fr403 rfl
                  have tr404 := (fr403 63 3 rfl)
                  have tr405 := (fr403 63 4 rfl)
                  have tr406 := (fr403 63 5 rfl)
                  have tr407 := (fr403 63 9 rfl)
                  have tr408 := (fr403 63 42 rfl)
                  have tr409 := rg_63_9 hI403
                  have hd410 := PI.deep v402p.1
                  have hs411 := PI.small v402p.1 (rg_63_43 hI403).2 (by decide)
                  have hs411a := hs411.1
                  have hs411b := hs411.2.1
                  have hs411c := rg_63_45 hI403
                  have hK412 := KP.trans (KP.fr (KP.fr (KP.refl (M := M)) fr2 (fun _ => rfl)) fr391 (fun _ => rfl)) ((fr391 63 36 rfl).trans (fr2 63 36 rfl)) v402p.2
                  have hk85413 : M403 85 ((v13 - 1)).toNat = v14 := ((fr403 85 _ rfl).trans ((fr391 85 _ rfl).trans v14e))
                  refine s_aload_n kx_197_484 rfl ?_
                  refine r_getR (k := 63) (f := 37) (k2 := 85) kx_197_485 kp_197_124 (tk_63 hT) kf_12_37 (by decide) (rq_63_37 hI403) ?_
                  refine s_iload_n kx_197_488 rfl ?_
                  refine s_iload_n kx_197_489 rfl ?_
                  refine s_iconst (v := 3) kx_197_490 (by decide) ?_
                  refine s_icmp_ne (t := 498) kx_197_491 (by decide) (fun hc414 => ?_) (fun hc414 => absurd hc414 (by omega))
                  refine s_iconst (v := 3) kx_197_498 (by decide) ?_
                  refine r_ast (k := 85) kx_197_499 (tk_85 hT) ⟨by omega, by omega⟩ hI403 (ru_85 (by omega) (by omega)) (fun M415 hI415 u415 => ?_)
                  have hFm415 := hFm403.up u415 rfl
                  have tr416 := (u415.2 63 3 (by omega))
                  have tr417 := (u415.2 63 4 (by omega))
                  have tr418 := (u415.2 63 5 (by omega))
                  have tr419 := (u415.2 63 9 (by omega))
                  have tr420 := (u415.2 63 35 (by omega))
                  have tr421 := (u415.2 63 42 (by omega))
                  have tr422 := (u415.2 63 43 (by omega))
                  have tr423 := (u415.2 63 45 (by omega))
                  refine s_aload_n kx_197_500 rfl ?_
                  refine r_getR (k := 63) (f := 38) (k2 := 86) kx_197_501 kp_197_127 (tk_63 hT) kf_12_38 (by decide) (rq_63_38 hI415) ?_
                  refine s_iload_n kx_197_504 rfl ?_
                  refine s_iconst (v := 0) kx_197_505 (by decide) ?_
                  refine r_ast (k := 86) kx_197_506 (tk_86 hT) ⟨by omega, by omega⟩ hI415 (ru_86 (by omega) (by omega)) (fun M424 hI424 u424 => ?_)
                  have hFm424 := hFm415.up u424 rfl
                  have tr425 := (u424.2 63 3 (by omega))
                  have tr426 := (u424.2 63 4 (by omega))
                  have tr427 := (u424.2 63 5 (by omega))
                  have tr428 := (u424.2 63 9 (by omega))
                  have tr429 := (u424.2 63 35 (by omega))
                  have tr430 := (u424.2 63 42 (by omega))
                  have tr431 := (u424.2 63 43 (by omega))
                  have tr432 := (u424.2 63 45 (by omega))
                  refine s_aload_n kx_197_507 rfl ?_
                  refine s_callV2 (k := 63) (s1 := 1) (s2 := 0) (as := []) (rest := []) kx_197_508 kp_197_286 (Or.inl rfl) rfl (tk_63 hT) ki_180 kcl_180 rfl rfl (by decide) (m_180 (d := d) hT hI424) (kV (fun M434 hI434 fr434 v433p => ?_))
                  have hFm434 := hFm424.call fr434 rfl
                  have tr435 := (fr434 63 9 rfl)
                  have tr436 := (fr434 63 35 rfl)
                  have tr437 := (fr434 63 42 rfl)
                  have tr438 := (fr434 63 43 rfl)
                  have tr439 := (fr434 63 45 rfl)
                  have tr440 := rg_63_9 hI434
                  refine s_aload_n kx_197_511 rfl ?_
                  refine s_iconst (v := 0) kx_197_512 (by decide) ?_
                  refine r_put (k := 63) (f := 46) kx_197_513 kp_197_152 (tk_63 hT) kf_12_46 rfl (by decide) (by decide) hI434 (ru_63_46 (by omega) (by omega)) (fun M441 hI441 u441 => ?_)
                  have hFm441 := hFm434.up u441 rfl
                  have tr442 := (u441.2 63 3 (by omega))
                  have tr443 := (u441.2 63 4 (by omega))
                  have tr444 := (u441.2 63 5 (by omega))
                  have tr445 := (u441.2 63 9 (by omega))
                  have tr446 := (u441.2 63 35 (by omega))
                  have tr447 := (u441.2 63 42 (by omega))
                  have tr448 := (u441.2 63 43 (by omega))
                  have tr449 := (u441.2 63 45 (by omega))
                  refine s_iconst (v := 1) kx_197_516 (by decide) ?_
                  have hk450 : M441 63 9 = v400 := ((u441.2 63 9 (by omega)).trans ((fr434 63 9 rfl).trans ((u424.2 63 9 (by omega)).trans ((u415.2 63 9 (by omega)).trans ((fr403 63 9 rfl).trans v400e)))))
                  exact s_iret kx_197_517 (Or.inr ⟨kq_197, by omega⟩) ⟨_, _, rfl, rfl, hI441, hFm441, ⟨by omega, by omega, (LXp.up (show LXp M434 from v433p.2) u441 (by decide)), (by omega), (by omega), ⟨(Or.inr (Or.inr ⟨rfl, by omega, Or.inl ⟨u441.1, PI.to7 (PI.fr (PI.fr (PI.phase (PI.comma v402p.1 (by omega) (by omega) u415) (Or.inr (by omega)) (by omega) u424) fr434 rfl) (Up.fr u441) rfl) (by omega)⟩⟩)), (KP.up (KP.fr (KP.up (KP.up hK412 u415 (by decide)) u424 (by decide)) fr434 (fun _ => rfl)) u441 (by decide))⟩⟩⟩
                · refine s_iconst (v := 0) kx_197_477 (by decide) ?_
                  have hk451 : M391 63 4 = v389 := ((fr391 63 4 rfl).trans v389e)
                  have hk452 : M391 63 9 = v400 := v400e
                  exact s_iret kx_197_478 (Or.inr ⟨kq_197, by omega⟩) ⟨_, _, rfl, rfl, hI391, hFm391, ⟨by omega, by omega, (LXp.fr (LXp.fr hX fr2 rfl) fr391 rfl), (by omega), (by omega), ⟨(Or.inl (by omega)), (KP.fr (KP.fr (KP.refl (M := M)) fr2 (fun _ => rfl)) fr391 (fun _ => rfl))⟩⟩⟩
        · refine s_aload_n kx_197_427 rfl ?_
          refine r_getK (k := 63) (f := 9) kx_197_428 kp_197_39 (tk_63 hT) kf_12_9 (fun _ => rfl) v11e ?_
          refine s_if_ne (t := 439) kx_197_431 (by decide) (fun hc453 => absurd hc453 (by omega)) (fun hc453 => ?_)
          refine s_aload_n kx_197_434 rfl ?_
          refine s_iconst (v := 1) kx_197_435 (by decide) ?_
          refine s_callV2 (k := 63) (s1 := 2) (s2 := 0) (as := [(0, 1)]) (rest := []) kx_197_436 kp_197_370 (Or.inl rfl) rfl (tk_63 hT) ki_191 kcl_191 rfl rfl (by decide) (m_191 (d := d) (least := 1) hT hI2 (PI.fr hP fr2 rfl) (by omega) (by omega) (by omega)) (kV (fun M455 hI455 fr455 v454p => ?_))
          have hFm455 := hFm2.call fr455 rfl
          have tr456 := (fr455 63 3 rfl)
          have tr457 := (fr455 63 4 rfl)
          have tr458 := (fr455 63 5 rfl)
          have tr459 := (fr455 63 9 rfl)
          have tr460 := (fr455 63 42 rfl)
          have tr461 := rg_63_9 hI455
          have hK462 := KP.trans (KP.fr (KP.refl (M := M)) fr2 (fun _ => rfl)) (fr2 63 36 rfl) v454p.2
          refine s_iconst (v := 0) kx_197_439 (by decide) ?_
          have hk463 : M455 63 9 = v11 := ((fr455 63 9 rfl).trans v11e)
          exact s_iret kx_197_440 (Or.inr ⟨kq_197, by omega⟩) ⟨_, _, rfl, rfl, hI455, hFm455, ⟨by omega, by omega, (LXp.fr (LXp.fr hX fr2 rfl) fr455 rfl), (by omega), (by omega), ⟨(if h9 : 1 ≤ M455 63 9 then Or.inl h9 else Or.inr (Or.inl ⟨rfl, PI.to7 v454p.1 (by omega)⟩)), hK462⟩⟩⟩
      · replace v15p := v15p.resolve_right (by omega)
        refine s_aload_n kx_197_192 rfl ?_
        refine r_getR (k := 63) (f := 38) (k2 := 86) kx_197_193 kp_197_127 (tk_63 hT) kf_12_38 (by decide) (rq_63_38 hI2) ?_
        refine s_iload_n kx_197_196 rfl ?_
        refine r_aldK (k := 86) kx_197_197 (tk_86 hT) ⟨by omega, by omega⟩ v16e ?_
        refine s_if_ne (t := 285) kx_197_198 (by decide) (fun hc464 => ?_) (fun hc464 => absurd hc464 (by omega))
        refine s_iload_n kx_197_285 rfl ?_
        refine s_if_eq (t := 400) kx_197_286 (by decide) (fun hc465 => absurd hc465 (by omega)) (fun hc465 => ?_)
        refine s_aload_n kx_197_289 rfl ?_
        refine s_ldc2_w kx_197_290 kp_197_327 ?_
        refine s_callV2 (k := 63) (s1 := 3) (s2 := 0) (as := [(1, 6385252)]) (rest := []) kx_197_293 kp_197_361 (Or.inl rfl) rfl (tk_63 hT) ki_182 kcl_182 rfl rfl (by decide) (m_182 (d := d + 1) (w := 6385252) hT hI2) (kF (fun v466 v466p => ?_))
        refine s_if_ne (t := 309) kx_197_296 (by decide) (fun hc467 => ?_) (fun hc467 => ?_)
        · replace v466p := v466p.resolve_right (by omega)
          refine s_aload_n kx_197_309 rfl ?_
          refine r_getR (k := 63) (f := 38) (k2 := 86) kx_197_310 kp_197_127 (tk_63 hT) kf_12_38 (by decide) (rq_63_38 hI2) ?_
          refine s_iload_n kx_197_313 rfl ?_
          refine r_aldK (k := 86) kx_197_314 (tk_86 hT) ⟨by omega, by omega⟩ v16e ?_
          refine s_if_ne (t := 327) kx_197_315 (by decide) (fun hc468 => ?_) (fun hc468 => absurd hc468 (by omega))
          refine s_aload_n kx_197_327 rfl ?_
          refine r_getK (k := 63) (f := 9) kx_197_328 kp_197_39 (tk_63 hT) kf_12_9 (fun _ => rfl) v11e ?_
          refine s_if_le (t := 336) kx_197_331 (by decide) (fun hc469 => ?_) (fun hc469 => absurd hc469 (by omega))
          refine s_aload_n kx_197_336 rfl ?_
          refine s_ldc2_w kx_197_337 kp_197_327 ?_
          refine s_callV2 (k := 63) (s1 := 3) (s2 := 0) (as := [(1, 6385252)]) (rest := []) kx_197_340 kp_197_361 (Or.inl rfl) rfl (tk_63 hT) ki_182 kcl_182 rfl rfl (by decide) (m_182 (d := d + 1) (w := 6385252) hT hI2) (kF (fun v470 v470p => ?_))
          refine s_istore kx_197_343 km_197_4 rfl ?_
          refine s_aload_n kx_197_345 rfl ?_
          refine s_iload kx_197_346 rfl ?_
          have jn475 : ∀ (y474 : Int), (1 ≤ y474) → (y474 ≤ 2) → ((y474 = 2 ∧ v470 ≠ 0) ∨ (y474 = 1 ∧ v470 = 0)) → cP k_P xs Ln (d + 2) 197 356 [(0, rf 63), (1, (0, (v13 - 1))), (4, (0, v470))] [(0, y474), rf 63] (T, M2) (qW T M fS_197_m 0 (fun v M1 => 0 ≤ v ∧ v ≤ 1 ∧ (LXp M1 ∧ M 63 4 ≤ M1 63 4 ∧ M 63 9 ≤ M1 63 9 ∧ (GOd M M1 c a v ∧ KP M M1)))) := by
            intro y474 a476 a477 a478
            refine s_callV2 (k := 63) (s1 := 2) (s2 := 0) (as := [(0, y474)]) (rest := []) kx_197_356 kp_197_370 (Or.inl rfl) rfl (tk_63 hT) ki_191 kcl_191 rfl rfl (by decide) (m_191 (d := d) (least := y474) hT hI2 (PI.fr hP fr2 rfl) (by omega) (by omega) (by omega)) (kV (fun M480 hI480 fr480 v479p => ?_))
            have hFm480 := hFm2.call fr480 rfl
            have tr481 := (fr480 63 3 rfl)
            have tr482 := (fr480 63 4 rfl)
            have tr483 := (fr480 63 5 rfl)
            have tr484 := (fr480 63 9 rfl)
            have tr485 := (fr480 63 42 rfl)
            have tr486 := rg_63_9 hI480
            have hd487 := PI.deep v479p.1
            have hs488 := PI.small v479p.1 (rg_63_43 hI480).2 (by decide)
            have hs488a := hs488.1
            have hs488b := hs488.2.1
            have hs488c := rg_63_45 hI480
            have hK489 := KP.trans (KP.fr (KP.refl (M := M)) fr2 (fun _ => rfl)) (fr2 63 36 rfl) v479p.2
            refine s_aload_n kx_197_359 rfl ?_
            refine s_iload kx_197_360 rfl ?_
            have jn494 : ∀ (y493 : Int), (20 ≤ y493) → (y493 ≤ 21) → ((y493 = 20 ∧ v470 ≠ 0) ∨ (y493 = 21 ∧ v470 = 0)) → cP k_P xs Ln (d + 2) 197 372 [(0, rf 63), (1, (0, (v13 - 1)))] [(0, y493), rf 63] (T, M480) (qW T M fS_197_m 0 (fun v M1 => 0 ≤ v ∧ v ≤ 1 ∧ (LXp M1 ∧ M 63 4 ≤ M1 63 4 ∧ M 63 9 ≤ M1 63 9 ∧ (GOd M M1 c a v ∧ KP M M1)))) := by
              intro y493 a495 a496 a497
              refine s_callV2 (k := 63) (s1 := 2) (s2 := 0) (as := [(0, y493)]) (rest := []) kx_197_372 kp_197_364 (Or.inl rfl) rfl (tk_63 hT) ki_192 kcl_192 rfl rfl (by decide) (m_192 (d := d + 1) (op := y493) hT hI480 (by omega) (by omega)) (kV (fun M499 hI499 fr499 v498p => ?_))
              have hFm499 := hFm480.call fr499 rfl
              have tr500 := (fr499 63 3 rfl)
              have tr501 := (fr499 63 4 rfl)
              have tr502 := (fr499 63 5 rfl)
              have tr503 := (fr499 63 9 rfl)
              have tr504 := (fr499 63 35 rfl)
              have tr505 := (fr499 63 42 rfl)
              have tr506 := (fr499 63 43 rfl)
              have tr507 := rg_63_9 hI499
              have hP508 := PI.holdL v479p.1 (B0.fr (B0.fr hB fr2 rfl (fun _ => rfl)) fr480 rfl (fun _ => rfl)) (by omega) fr499 v498p.1 v498p.2.1 v498p.2.2
              refine s_aload_n kx_197_375 rfl ?_
              refine r_getR (k := 63) (f := 38) (k2 := 86) kx_197_376 kp_197_127 (tk_63 hT) kf_12_38 (by decide) (rq_63_38 hI499) ?_
              refine s_iload_n kx_197_379 rfl ?_
              refine s_iconst (v := 0) kx_197_380 (by decide) ?_
              refine r_ast (k := 86) kx_197_381 (tk_86 hT) ⟨by omega, by omega⟩ hI499 (ru_86 (by omega) (by omega)) (fun M509 hI509 u509 => ?_)
              have hFm509 := hFm499.up u509 rfl
              have tr510 := (u509.2 63 3 (by omega))
              have tr511 := (u509.2 63 4 (by omega))
              have tr512 := (u509.2 63 5 (by omega))
              have tr513 := (u509.2 63 9 (by omega))
              have tr514 := (u509.2 63 35 (by omega))
              have tr515 := (u509.2 63 42 (by omega))
              have tr516 := (u509.2 63 43 (by omega))
              have tr517 := (u509.2 63 45 (by omega))
              refine s_aload_n kx_197_382 rfl ?_
              refine r_getR (k := 63) (f := 39) (k2 := 87) kx_197_383 kp_197_130 (tk_63 hT) kf_12_39 (by decide) (rq_63_39 hI509) ?_
              refine s_iload_n kx_197_386 rfl ?_
              refine s_iconst (v := 1) kx_197_387 (by decide) ?_
              refine r_bast (k := 87) kx_197_388 (tk_87 hT) ⟨by omega, by omega⟩ (by omega) hI509 (ru_87 (by omega) (by omega)) (fun M518 hI518 u518 => ?_)
              have hFm518 := hFm509.up u518 rfl
              have tr519 := (u518.2 63 3 (by omega))
              have tr520 := (u518.2 63 4 (by omega))
              have tr521 := (u518.2 63 5 (by omega))
              have tr522 := (u518.2 63 9 (by omega))
              have tr523 := (u518.2 63 35 (by omega))
              have tr524 := (u518.2 63 42 (by omega))
              have tr525 := (u518.2 63 43 (by omega))
              have tr526 := (u518.2 63 45 (by omega))
              refine s_aload_n kx_197_389 rfl ?_
              refine s_callV2 (k := 63) (s1 := 1) (s2 := 0) (as := []) (rest := []) kx_197_390 kp_197_286 (Or.inl rfl) rfl (tk_63 hT) ki_180 kcl_180 rfl rfl (by decide) (m_180 (d := d) hT hI518) (kV (fun M528 hI528 fr528 v527p => ?_))
              have hFm528 := hFm518.call fr528 rfl
              have tr529 := (fr528 63 9 rfl)
              have tr530 := (fr528 63 35 rfl)
              have tr531 := (fr528 63 42 rfl)
              have tr532 := (fr528 63 43 rfl)
              have tr533 := (fr528 63 45 rfl)
              have tr534 := rg_63_9 hI528
              refine s_aload_n kx_197_393 rfl ?_
              refine s_iconst (v := 0) kx_197_394 (by decide) ?_
              refine r_put (k := 63) (f := 46) kx_197_395 kp_197_152 (tk_63 hT) kf_12_46 rfl (by decide) (by decide) hI528 (ru_63_46 (by omega) (by omega)) (fun M535 hI535 u535 => ?_)
              have hFm535 := hFm528.up u535 rfl
              have tr536 := (u535.2 63 3 (by omega))
              have tr537 := (u535.2 63 4 (by omega))
              have tr538 := (u535.2 63 5 (by omega))
              have tr539 := (u535.2 63 9 (by omega))
              have tr540 := (u535.2 63 35 (by omega))
              have tr541 := (u535.2 63 42 (by omega))
              have tr542 := (u535.2 63 43 (by omega))
              have tr543 := (u535.2 63 45 (by omega))
              refine s_iconst (v := 1) kx_197_398 (by decide) ?_
              have hk544 : M535 63 9 = v11 := ((u535.2 63 9 (by omega)).trans ((fr528 63 9 rfl).trans ((u518.2 63 9 (by omega)).trans ((u509.2 63 9 (by omega)).trans ((fr499 63 9 rfl).trans ((fr480 63 9 rfl).trans v11e))))))
              exact s_iret kx_197_399 (Or.inr ⟨kq_197, by omega⟩) ⟨_, _, rfl, rfl, hI535, hFm535, ⟨by omega, by omega, (LXp.up (show LXp M528 from v527p.2) u535 (by decide)), (by omega), (by omega), ⟨(Or.inr (Or.inr ⟨rfl, by omega, Or.inl ⟨u535.1, PI.to7 (PI.fr (PI.fr (PI.begins1 (PI.phase hP508 (Or.inr (by omega)) (by omega) u509) (by omega) (by omega) u518) fr528 rfl) (Up.fr u535) rfl) (by omega)⟩⟩)), (KP.up (KP.fr (KP.up (KP.up (KP.fr hK489 fr499 (fun _ => rfl)) u509 (by decide)) u518 (by decide)) fr528 (fun _ => rfl)) u535 (by decide))⟩⟩⟩
            refine s_if_eq (t := 370) kx_197_362 (by decide) (fun hc490 => ?_) (fun hc490 => ?_)
            · have hJ491 : Fr fS_197_j362 M480 M480 := Fr.refl
              refine s_bipush (v := 21) kx_197_370 (by decide) ?_
              exact cP.wk (lS1 rfl (lS1 rfl lS0)) (jn494 21 (by omega) (by omega) (by omega))
            · have hJ492 : Fr fS_197_j362 M480 M480 := Fr.refl
              refine s_bipush (v := 20) kx_197_365 (by decide) ?_
              refine s_goto (t := 372) kx_197_367 (by decide) ?_
              exact cP.wk (lS1 rfl (lS1 rfl lS0)) (jn494 20 (by omega) (by omega) (by omega))
          refine s_if_eq (t := 355) kx_197_348 (by decide) (fun hc471 => ?_) (fun hc471 => ?_)
          · have hJ472 : Fr fS_197_j348 M2 M2 := Fr.refl
            replace v470p := v470p.resolve_left (by omega)
            refine s_iconst (v := 1) kx_197_355 (by decide) ?_
            exact cP.wk (lS1 rfl (lS1 rfl (lS1 rfl lS0))) (jn475 1 (by omega) (by omega) (by omega))
          · have hJ473 : Fr fS_197_j348 M2 M2 := Fr.refl
            replace v470p := v470p.resolve_right (by omega)
            refine s_iconst (v := 2) kx_197_351 (by decide) ?_
            refine s_goto (t := 356) kx_197_352 (by decide) ?_
            exact cP.wk (lS1 rfl (lS1 rfl (lS1 rfl lS0))) (jn475 2 (by omega) (by omega) (by omega))
        · replace v466p := v466p.resolve_left (by omega)
          refine s_aload_n kx_197_299 rfl ?_
          refine s_ldc2_w kx_197_300 kp_197_325 ?_
          refine s_callV2 (k := 63) (s1 := 3) (s2 := 0) (as := [(1, 28530)]) (rest := []) kx_197_303 kp_197_361 (Or.inl rfl) rfl (tk_63 hT) ki_182 kcl_182 rfl rfl (by decide) (m_182 (d := d + 1) (w := 28530) hT hI2) (kF (fun v545 v545p => ?_))
          refine s_if_eq (t := 400) kx_197_306 (by decide) (fun hc546 => ?_) (fun hc546 => ?_)
          · replace v545p := v545p.resolve_left (by omega)
            refine s_iload_n kx_197_400 rfl ?_
            refine s_if_eq (t := 422) kx_197_401 (by decide) (fun hc547 => absurd hc547 (by omega)) (fun hc547 => ?_)
            refine s_aload_n kx_197_404 rfl ?_
            refine r_getR (k := 63) (f := 38) (k2 := 86) kx_197_405 kp_197_127 (tk_63 hT) kf_12_38 (by decide) (rq_63_38 hI2) ?_
            refine s_iload_n kx_197_408 rfl ?_
            refine r_aldK (k := 86) kx_197_409 (tk_86 hT) ⟨by omega, by omega⟩ v16e ?_
            refine s_if_ne (t := 422) kx_197_410 (by decide) (fun hc548 => ?_) (fun hc548 => absurd hc548 (by omega))
            refine s_iload_n kx_197_422 rfl ?_
            refine s_iconst (v := 2) kx_197_423 (by decide) ?_
            refine s_icmp_ge (t := 441) kx_197_424 (by decide) (fun hc549 => ?_) (fun hc549 => ?_)
            · refine s_iload_n kx_197_441 rfl ?_
              refine s_iconst (v := 3) kx_197_442 (by decide) ?_
              refine s_icmp_eq (t := 452) kx_197_443 (by decide) (fun hc550 => ?_) (fun hc550 => ?_)
              · refine s_aload_n kx_197_452 rfl ?_
                refine s_bipush (v := 44) kx_197_453 (by decide) ?_
                refine s_callV2 (k := 63) (s1 := 2) (s2 := 0) (as := [(0, 44)]) (rest := []) kx_197_455 kp_197_283 (Or.inl rfl) rfl (tk_63 hT) ki_181 kcl_181 rfl rfl (by decide) (m_181 (d := d + 1) (c := 44) hT hI2) (kF (fun v551 v551p => ?_))
                refine s_if_ne (t := 470) kx_197_458 (by decide) (fun hc552 => ?_) (fun hc552 => ?_)
                · replace v551p := v551p.resolve_right (by omega)
                  refine s_aload_n kx_197_470 rfl ?_
                  refine r_getK (k := 63) (f := 9) kx_197_471 kp_197_39 (tk_63 hT) kf_12_9 (fun _ => rfl) v11e ?_
                  refine s_if_le (t := 479) kx_197_474 (by decide) (fun hc553 => ?_) (fun hc553 => absurd hc553 (by omega))
                  refine s_aload_n kx_197_479 rfl ?_
                  refine s_iconst (v := 1) kx_197_480 (by decide) ?_
                  refine s_callV2 (k := 63) (s1 := 2) (s2 := 0) (as := [(0, 1)]) (rest := []) kx_197_481 kp_197_370 (Or.inl rfl) rfl (tk_63 hT) ki_191 kcl_191 rfl rfl (by decide) (m_191 (d := d) (least := 1) hT hI2 (PI.fr hP fr2 rfl) (by omega) (by omega) (by omega)) (kV (fun M555 hI555 fr555 v554p => ?_))
                  have hFm555 := hFm2.call fr555 rfl
                  have tr556 := (fr555 63 3 rfl)
                  have tr557 := (fr555 63 4 rfl)
                  have tr558 := (fr555 63 5 rfl)
                  have tr559 := (fr555 63 9 rfl)
                  have tr560 := (fr555 63 42 rfl)
                  have tr561 := rg_63_9 hI555
                  have hd562 := PI.deep v554p.1
                  have hs563 := PI.small v554p.1 (rg_63_43 hI555).2 (by decide)
                  have hs563a := hs563.1
                  have hs563b := hs563.2.1
                  have hs563c := rg_63_45 hI555
                  have hK564 := KP.trans (KP.fr (KP.refl (M := M)) fr2 (fun _ => rfl)) (fr2 63 36 rfl) v554p.2
                  have hk85565 : M555 85 ((v13 - 1)).toNat = v14 := ((fr555 85 _ rfl).trans v14e)
                  refine s_aload_n kx_197_484 rfl ?_
                  refine r_getR (k := 63) (f := 37) (k2 := 85) kx_197_485 kp_197_124 (tk_63 hT) kf_12_37 (by decide) (rq_63_37 hI555) ?_
                  refine s_iload_n kx_197_488 rfl ?_
                  refine s_iload_n kx_197_489 rfl ?_
                  refine s_iconst (v := 3) kx_197_490 (by decide) ?_
                  refine s_icmp_ne (t := 498) kx_197_491 (by decide) (fun hc566 => absurd hc566 (by omega)) (fun hc566 => ?_)
                  refine s_iconst (v := 4) kx_197_494 (by decide) ?_
                  refine s_goto (t := 499) kx_197_495 (by decide) ?_
                  refine r_ast (k := 85) kx_197_499 (tk_85 hT) ⟨by omega, by omega⟩ hI555 (ru_85 (by omega) (by omega)) (fun M567 hI567 u567 => ?_)
                  have hFm567 := hFm555.up u567 rfl
                  have tr568 := (u567.2 63 3 (by omega))
                  have tr569 := (u567.2 63 4 (by omega))
                  have tr570 := (u567.2 63 5 (by omega))
                  have tr571 := (u567.2 63 9 (by omega))
                  have tr572 := (u567.2 63 35 (by omega))
                  have tr573 := (u567.2 63 42 (by omega))
                  have tr574 := (u567.2 63 43 (by omega))
                  have tr575 := (u567.2 63 45 (by omega))
                  refine s_aload_n kx_197_500 rfl ?_
                  refine r_getR (k := 63) (f := 38) (k2 := 86) kx_197_501 kp_197_127 (tk_63 hT) kf_12_38 (by decide) (rq_63_38 hI567) ?_
                  refine s_iload_n kx_197_504 rfl ?_
                  refine s_iconst (v := 0) kx_197_505 (by decide) ?_
                  refine r_ast (k := 86) kx_197_506 (tk_86 hT) ⟨by omega, by omega⟩ hI567 (ru_86 (by omega) (by omega)) (fun M576 hI576 u576 => ?_)
                  have hFm576 := hFm567.up u576 rfl
                  have tr577 := (u576.2 63 3 (by omega))
                  have tr578 := (u576.2 63 4 (by omega))
                  have tr579 := (u576.2 63 5 (by omega))
                  have tr580 := (u576.2 63 9 (by omega))
                  have tr581 := (u576.2 63 35 (by omega))
                  have tr582 := (u576.2 63 42 (by omega))
                  have tr583 := (u576.2 63 43 (by omega))
                  have tr584 := (u576.2 63 45 (by omega))
                  refine s_aload_n kx_197_507 rfl ?_
                  refine s_callV2 (k := 63) (s1 := 1) (s2 := 0) (as := []) (rest := []) kx_197_508 kp_197_286 (Or.inl rfl) rfl (tk_63 hT) ki_180 kcl_180 rfl rfl (by decide) (m_180 (d := d) hT hI576) (kV (fun M586 hI586 fr586 v585p => ?_))
                  have hFm586 := hFm576.call fr586 rfl
                  have tr587 := (fr586 63 9 rfl)
                  have tr588 := (fr586 63 35 rfl)
                  have tr589 := (fr586 63 42 rfl)
                  have tr590 := (fr586 63 43 rfl)
                  have tr591 := (fr586 63 45 rfl)
                  have tr592 := rg_63_9 hI586
                  refine s_aload_n kx_197_511 rfl ?_
                  refine s_iconst (v := 0) kx_197_512 (by decide) ?_
                  refine r_put (k := 63) (f := 46) kx_197_513 kp_197_152 (tk_63 hT) kf_12_46 rfl (by decide) (by decide) hI586 (ru_63_46 (by omega) (by omega)) (fun M593 hI593 u593 => ?_)
                  have hFm593 := hFm586.up u593 rfl
                  have tr594 := (u593.2 63 3 (by omega))
                  have tr595 := (u593.2 63 4 (by omega))
                  have tr596 := (u593.2 63 5 (by omega))
                  have tr597 := (u593.2 63 9 (by omega))
                  have tr598 := (u593.2 63 35 (by omega))
                  have tr599 := (u593.2 63 42 (by omega))
                  have tr600 := (u593.2 63 43 (by omega))
                  have tr601 := (u593.2 63 45 (by omega))
                  refine s_iconst (v := 1) kx_197_516 (by decide) ?_
                  have hk602 : M593 63 9 = v11 := ((u593.2 63 9 (by omega)).trans ((fr586 63 9 rfl).trans ((u576.2 63 9 (by omega)).trans ((u567.2 63 9 (by omega)).trans ((fr555 63 9 rfl).trans v11e)))))
                  exact s_iret kx_197_517 (Or.inr ⟨kq_197, by omega⟩) ⟨_, _, rfl, rfl, hI593, hFm593, ⟨by omega, by omega, (LXp.up (show LXp M586 from v585p.2) u593 (by decide)), (by omega), (by omega), ⟨(Or.inr (Or.inr ⟨rfl, by omega, Or.inl ⟨u593.1, PI.to7 (PI.fr (PI.fr (PI.phase (PI.comma v554p.1 (by omega) (by omega) u567) (Or.inr (by omega)) (by omega) u576) fr586 rfl) (Up.fr u593) rfl) (by omega)⟩⟩)), (KP.up (KP.fr (KP.up (KP.up hK564 u567 (by decide)) u576 (by decide)) fr586 (fun _ => rfl)) u593 (by decide))⟩⟩⟩
                · replace v551p := v551p.resolve_left (by omega)
                  refine s_aload_n kx_197_461 rfl ?_
                  refine s_iconst (v := 1) kx_197_462 (by decide) ?_
                  refine s_aload_n kx_197_463 rfl ?_
                  refine r_getI (k := 63) (f := 4) kx_197_464 kp_197_23 (tk_63 hT) kf_12_4 (fun _ => rfl) (rg_63_4 hI2) (fun v603 v603e v603a v603b => ?_)
                  have v603z : M 63 4 = v603 := ((fr2 63 4 rfl)).symm.trans v603e
                  refine s_callV2 (k := 63) (s1 := 3) (s2 := 0) (as := [(0, v603), (0, 1)]) (rest := []) kx_197_467 kp_197_263 (Or.inl rfl) rfl (tk_63 hT) ki_176 kcl_176 rfl rfl (by decide) (m_176 (d := d + 1) (kind := 1) (place := v603) hT hI2 (by omega)) (kV (fun M605 hI605 fr605 v604p => ?_))
                  have hFm605 := hFm2.call fr605 rfl
                  have tr606 := (fr605 63 3 rfl)
                  have tr607 := (fr605 63 4 rfl)
                  have tr608 := (fr605 63 5 rfl)
                  have tr609 := (fr605 63 35 rfl)
                  have tr610 := (fr605 63 42 rfl)
                  have tr611 := (fr605 63 43 rfl)
                  have tr612 := (fr605 63 45 rfl)
                  have tr613 := rg_63_9 hI605
                  refine s_aload_n kx_197_470 rfl ?_
                  refine r_getI (k := 63) (f := 9) kx_197_471 kp_197_39 (tk_63 hT) kf_12_9 (fun _ => rfl) (rg_63_9 hI605) (fun v614 v614e v614a v614b => ?_)
                  refine s_if_le (t := 479) kx_197_474 (by decide) (fun hc615 => ?_) (fun hc615 => ?_)
                  · refine s_aload_n kx_197_479 rfl ?_
                    refine s_iconst (v := 1) kx_197_480 (by decide) ?_
                    refine s_callV2 (k := 63) (s1 := 2) (s2 := 0) (as := [(0, 1)]) (rest := []) kx_197_481 kp_197_370 (Or.inl rfl) rfl (tk_63 hT) ki_191 kcl_191 rfl rfl (by decide) (m_191 (d := d) (least := 1) hT hI605 (PI.fr (PI.fr hP fr2 rfl) fr605 rfl) (by omega) (by omega) (by omega)) (kV (fun M617 hI617 fr617 v616p => ?_))
                    have hFm617 := hFm605.call fr617 rfl
                    have tr618 := (fr617 63 3 rfl)
                    have tr619 := (fr617 63 4 rfl)
                    have tr620 := (fr617 63 5 rfl)
                    have tr621 := (fr617 63 9 rfl)
                    have tr622 := (fr617 63 42 rfl)
                    have tr623 := rg_63_9 hI617
                    have hd624 := PI.deep v616p.1
                    have hs625 := PI.small v616p.1 (rg_63_43 hI617).2 (by decide)
                    have hs625a := hs625.1
                    have hs625b := hs625.2.1
                    have hs625c := rg_63_45 hI617
                    have hK626 := KP.trans (KP.fr (KP.fr (KP.refl (M := M)) fr2 (fun _ => rfl)) fr605 (fun _ => rfl)) ((fr605 63 36 rfl).trans (fr2 63 36 rfl)) v616p.2
                    have hk85627 : M617 85 ((v13 - 1)).toNat = v14 := ((fr617 85 _ rfl).trans ((fr605 85 _ rfl).trans v14e))
                    refine s_aload_n kx_197_484 rfl ?_
                    refine r_getR (k := 63) (f := 37) (k2 := 85) kx_197_485 kp_197_124 (tk_63 hT) kf_12_37 (by decide) (rq_63_37 hI617) ?_
                    refine s_iload_n kx_197_488 rfl ?_
                    refine s_iload_n kx_197_489 rfl ?_
                    refine s_iconst (v := 3) kx_197_490 (by decide) ?_
                    refine s_icmp_ne (t := 498) kx_197_491 (by decide) (fun hc628 => absurd hc628 (by omega)) (fun hc628 => ?_)
                    refine s_iconst (v := 4) kx_197_494 (by decide) ?_
                    refine s_goto (t := 499) kx_197_495 (by decide) ?_
                    refine r_ast (k := 85) kx_197_499 (tk_85 hT) ⟨by omega, by omega⟩ hI617 (ru_85 (by omega) (by omega)) (fun M629 hI629 u629 => ?_)
                    have hFm629 := hFm617.up u629 rfl
                    have tr630 := (u629.2 63 3 (by omega))
                    have tr631 := (u629.2 63 4 (by omega))
                    have tr632 := (u629.2 63 5 (by omega))
                    have tr633 := (u629.2 63 9 (by omega))
                    have tr634 := (u629.2 63 35 (by omega))
                    have tr635 := (u629.2 63 42 (by omega))
                    have tr636 := (u629.2 63 43 (by omega))
                    have tr637 := (u629.2 63 45 (by omega))
                    refine s_aload_n kx_197_500 rfl ?_
                    refine r_getR (k := 63) (f := 38) (k2 := 86) kx_197_501 kp_197_127 (tk_63 hT) kf_12_38 (by decide) (rq_63_38 hI629) ?_
                    refine s_iload_n kx_197_504 rfl ?_
                    refine s_iconst (v := 0) kx_197_505 (by decide) ?_
                    refine r_ast (k := 86) kx_197_506 (tk_86 hT) ⟨by omega, by omega⟩ hI629 (ru_86 (by omega) (by omega)) (fun M638 hI638 u638 => ?_)
                    have hFm638 := hFm629.up u638 rfl
                    have tr639 := (u638.2 63 3 (by omega))
                    have tr640 := (u638.2 63 4 (by omega))
                    have tr641 := (u638.2 63 5 (by omega))
                    have tr642 := (u638.2 63 9 (by omega))
                    have tr643 := (u638.2 63 35 (by omega))
                    have tr644 := (u638.2 63 42 (by omega))
                    have tr645 := (u638.2 63 43 (by omega))
                    have tr646 := (u638.2 63 45 (by omega))
                    refine s_aload_n kx_197_507 rfl ?_
                    refine s_callV2 (k := 63) (s1 := 1) (s2 := 0) (as := []) (rest := []) kx_197_508 kp_197_286 (Or.inl rfl) rfl (tk_63 hT) ki_180 kcl_180 rfl rfl (by decide) (m_180 (d := d) hT hI638) (kV (fun M648 hI648 fr648 v647p => ?_))
                    have hFm648 := hFm638.call fr648 rfl
                    have tr649 := (fr648 63 9 rfl)
                    have tr650 := (fr648 63 35 rfl)
                    have tr651 := (fr648 63 42 rfl)
                    have tr652 := (fr648 63 43 rfl)
                    have tr653 := (fr648 63 45 rfl)
                    have tr654 := rg_63_9 hI648
                    refine s_aload_n kx_197_511 rfl ?_
                    refine s_iconst (v := 0) kx_197_512 (by decide) ?_
                    refine r_put (k := 63) (f := 46) kx_197_513 kp_197_152 (tk_63 hT) kf_12_46 rfl (by decide) (by decide) hI648 (ru_63_46 (by omega) (by omega)) (fun M655 hI655 u655 => ?_)
                    have hFm655 := hFm648.up u655 rfl
                    have tr656 := (u655.2 63 3 (by omega))
                    have tr657 := (u655.2 63 4 (by omega))
                    have tr658 := (u655.2 63 5 (by omega))
                    have tr659 := (u655.2 63 9 (by omega))
                    have tr660 := (u655.2 63 35 (by omega))
                    have tr661 := (u655.2 63 42 (by omega))
                    have tr662 := (u655.2 63 43 (by omega))
                    have tr663 := (u655.2 63 45 (by omega))
                    refine s_iconst (v := 1) kx_197_516 (by decide) ?_
                    have hk664 : M655 63 9 = v614 := ((u655.2 63 9 (by omega)).trans ((fr648 63 9 rfl).trans ((u638.2 63 9 (by omega)).trans ((u629.2 63 9 (by omega)).trans ((fr617 63 9 rfl).trans v614e)))))
                    exact s_iret kx_197_517 (Or.inr ⟨kq_197, by omega⟩) ⟨_, _, rfl, rfl, hI655, hFm655, ⟨by omega, by omega, (LXp.up (show LXp M648 from v647p.2) u655 (by decide)), (by omega), (by omega), ⟨(Or.inr (Or.inr ⟨rfl, by omega, Or.inl ⟨u655.1, PI.to7 (PI.fr (PI.fr (PI.phase (PI.comma v616p.1 (by omega) (by omega) u629) (Or.inr (by omega)) (by omega) u638) fr648 rfl) (Up.fr u655) rfl) (by omega)⟩⟩)), (KP.up (KP.fr (KP.up (KP.up hK626 u629 (by decide)) u638 (by decide)) fr648 (fun _ => rfl)) u655 (by decide))⟩⟩⟩
                  · refine s_iconst (v := 0) kx_197_477 (by decide) ?_
                    have hk665 : M605 63 4 = v603 := ((fr605 63 4 rfl).trans v603e)
                    have hk666 : M605 63 9 = v614 := v614e
                    exact s_iret kx_197_478 (Or.inr ⟨kq_197, by omega⟩) ⟨_, _, rfl, rfl, hI605, hFm605, ⟨by omega, by omega, (LXp.fr (LXp.fr hX fr2 rfl) fr605 rfl), (by omega), (by omega), ⟨(Or.inl (by omega)), (KP.fr (KP.fr (KP.refl (M := M)) fr2 (fun _ => rfl)) fr605 (fun _ => rfl))⟩⟩⟩
              · refine s_iload_n kx_197_446 rfl ?_
                refine s_bipush (v := 6) kx_197_447 (by decide) ?_
                refine s_icmp_ne (t := 518) kx_197_449 (by decide) (fun hc667 => ?_) (fun hc667 => ?_)
                · refine s_aload_n kx_197_518 rfl ?_
                  refine s_iload_n kx_197_519 rfl ?_
                  refine s_iconst (v := 5) kx_197_520 (by decide) ?_
                  have jn672 : ∀ (y671 : Int), (41 ≤ y671) → (y671 ≤ 93) → cP k_P xs Ln (d + 2) 197 531 [(0, rf 63), (1, (0, (v13 - 1))), (2, (0, v14))] [(0, y671), rf 63] (T, M2) (qW T M fS_197_m 0 (fun v M1 => 0 ≤ v ∧ v ≤ 1 ∧ (LXp M1 ∧ M 63 4 ≤ M1 63 4 ∧ M 63 9 ≤ M1 63 9 ∧ (GOd M M1 c a v ∧ KP M M1)))) := by
                    intro y671 a673 a674
                    refine s_callV2 (k := 63) (s1 := 2) (s2 := 0) (as := [(0, y671)]) (rest := []) kx_197_531 kp_197_283 (Or.inl rfl) rfl (tk_63 hT) ki_181 kcl_181 rfl rfl (by decide) (m_181 (d := d + 1) (c := y671) hT hI2) (kF (fun v675 v675p => ?_))
                    refine s_if_ne (t := 546) kx_197_534 (by decide) (fun hc676 => ?_) (fun hc676 => ?_)
                    · replace v675p := v675p.resolve_right (by omega)
                      refine s_aload_n kx_197_546 rfl ?_
                      refine r_getK (k := 63) (f := 9) kx_197_547 kp_197_39 (tk_63 hT) kf_12_9 (fun _ => rfl) v11e ?_
                      refine s_if_le (t := 555) kx_197_550 (by decide) (fun hc677 => ?_) (fun hc677 => absurd hc677 (by omega))
                      refine s_aload_n kx_197_555 rfl ?_
                      refine s_iconst (v := 1) kx_197_556 (by decide) ?_
                      refine s_callV2 (k := 63) (s1 := 2) (s2 := 0) (as := [(0, 1)]) (rest := []) kx_197_557 kp_197_370 (Or.inl rfl) rfl (tk_63 hT) ki_191 kcl_191 rfl rfl (by decide) (m_191 (d := d) (least := 1) hT hI2 (PI.fr hP fr2 rfl) (by omega) (by omega) (by omega)) (kV (fun M679 hI679 fr679 v678p => ?_))
                      have hFm679 := hFm2.call fr679 rfl
                      have tr680 := (fr679 63 3 rfl)
                      have tr681 := (fr679 63 4 rfl)
                      have tr682 := (fr679 63 5 rfl)
                      have tr683 := (fr679 63 9 rfl)
                      have tr684 := (fr679 63 42 rfl)
                      have tr685 := rg_63_9 hI679
                      have hd686 := PI.deep v678p.1
                      have hs687 := PI.small v678p.1 (rg_63_43 hI679).2 (by decide)
                      have hs687a := hs687.1
                      have hs687b := hs687.2.1
                      have hs687c := rg_63_45 hI679
                      have hK688 := KP.trans (KP.fr (KP.refl (M := M)) fr2 (fun _ => rfl)) (fr2 63 36 rfl) v678p.2
                      refine s_aload_n kx_197_560 rfl ?_
                      refine s_dup kx_197_561 rfl ?_
                      refine r_getK (k := 63) (f := 42) kx_197_562 kp_197_140 (tk_63 hT) kf_12_42 (fun _ => rfl) ((fr679 63 42 rfl).trans v13e) ?_
                      refine s_iconst (v := 1) kx_197_565 (by decide) ?_
                      refine r_sub kx_197_566 ⟨by omega, by omega⟩ ?_
                      refine r_put (k := 63) (f := 42) kx_197_567 kp_197_140 (tk_63 hT) kf_12_42 rfl (by decide) (by decide) hI679 (ru_63_42 (by omega) (by omega)) (fun M689 hI689 u689 => ?_)
                      have hFm689 := hFm679.up u689 rfl
                      have tr690 := (u689.2 63 3 (by omega))
                      have tr691 := (u689.2 63 4 (by omega))
                      have tr692 := (u689.2 63 5 (by omega))
                      have tr693 := (u689.2 63 9 (by omega))
                      have tr694 := (u689.2 63 35 (by omega))
                      have tr695 := u689.1
                      have tr696 := (u689.2 63 43 (by omega))
                      have tr697 := (u689.2 63 45 (by omega))
                      have hcl698 := PI.close v678p.1 (by decide) (f := (v13 - 1)) (by omega) ((fr679 85 _ rfl).trans v14e) (by omega) u689 (by omega)
                      have hcl698d := hcl698.2.2.1
                      have hcl698q := PI.deep hcl698.1
                      refine s_aload_n kx_197_570 rfl ?_
                      refine s_dup kx_197_571 rfl ?_
                      refine r_getI (k := 63) (f := 43) kx_197_572 kp_197_143 (tk_63 hT) kf_12_43 (fun _ => rfl) (rg_63_43 hI689) (fun v699 v699e v699a v699b => ?_)
                      refine s_iconst (v := 1) kx_197_575 (by decide) ?_
                      refine r_sub kx_197_576 ⟨by omega, by omega⟩ ?_
                      have hcl698e := PI.e_le hcl698.1
                      refine r_put (k := 63) (f := 43) kx_197_577 kp_197_143 (tk_63 hT) kf_12_43 rfl (by decide) (by decide) hI689 (ru_63_43 (by omega) (by omega)) (fun M700 hI700 u700 => ?_)
                      have hFm700 := hFm689.up u700 rfl
                      have tr701 := (u700.2 63 3 (by omega))
                      have tr702 := (u700.2 63 4 (by omega))
                      have tr703 := (u700.2 63 5 (by omega))
                      have tr704 := (u700.2 63 9 (by omega))
                      have tr705 := (u700.2 63 35 (by omega))
                      have tr706 := (u700.2 63 42 (by omega))
                      have tr707 := u700.1
                      have tr708 := (u700.2 63 45 (by omega))
                      have hP709 := (PI.opn (e' := 0) hcl698.1 u700 (by omega))
                      refine s_iload_n kx_197_580 rfl ?_
                      refine s_iconst (v := 4) kx_197_581 (by decide) ?_
                      refine s_icmp_ne (t := 596) kx_197_582 (by decide) (fun hc710 => ?_) (fun hc710 => ?_)
                      · have hP711 := PI.comp0 hP709 (by omega)
                        refine s_iload_n kx_197_596 rfl ?_
                        refine s_iconst (v := 5) kx_197_597 (by decide) ?_
                        refine s_icmp_ne (t := 613) kx_197_598 (by decide) (fun hc712 => ?_) (fun hc712 => ?_)
                        · refine s_aload_n kx_197_613 rfl ?_
                          refine s_callV2 (k := 63) (s1 := 1) (s2 := 0) (as := []) (rest := []) kx_197_614 kp_197_286 (Or.inl rfl) rfl (tk_63 hT) ki_180 kcl_180 rfl rfl (by decide) (m_180 (d := d) hT hI700) (kV (fun M714 hI714 fr714 v713p => ?_))
                          have hFm714 := hFm700.call fr714 rfl
                          have tr715 := (fr714 63 9 rfl)
                          have tr716 := (fr714 63 35 rfl)
                          have tr717 := (fr714 63 42 rfl)
                          have tr718 := (fr714 63 43 rfl)
                          have tr719 := (fr714 63 45 rfl)
                          have tr720 := rg_63_9 hI714
                          refine s_iconst (v := 1) kx_197_617 (by decide) ?_
                          have hk721 : M714 63 9 = v11 := ((fr714 63 9 rfl).trans ((u700.2 63 9 (by omega)).trans ((u689.2 63 9 (by omega)).trans ((fr679 63 9 rfl).trans v11e))))
                          exact s_iret kx_197_618 (Or.inr ⟨kq_197, by omega⟩) ⟨_, _, rfl, rfl, hI714, hFm714, ⟨by omega, by omega, (show LXp M714 from v713p.2), (by omega), (by omega), ⟨(Or.inr (Or.inr ⟨rfl, by omega, Or.inr ⟨((fr714 63 46 rfl).trans ((u700.2 63 46 (by omega)).trans ((u689.2 63 46 (by omega)).trans ((fr679 63 46 rfl).trans (fr2 63 46 rfl))))), (B0.fr (B0.up (show B0 M689 from hcl698.2.1) u700 (by decide)) fr714 rfl (fun _ => rfl)), PI.to7 (PI.fr hP711 fr714 rfl) (by omega)⟩⟩)), (KP.fr (KP.up (KP.up hK688 u689 (by decide)) u700 (by decide)) fr714 (fun _ => rfl))⟩⟩⟩
                        · refine s_aload_n kx_197_601 rfl ?_
                          refine r_getR (k := 63) (f := 38) (k2 := 86) kx_197_602 kp_197_127 (tk_63 hT) kf_12_38 (by decide) (rq_63_38 hI700) ?_
                          refine s_aload_n kx_197_605 rfl ?_
                          refine r_getK (k := 63) (f := 42) kx_197_606 kp_197_140 (tk_63 hT) kf_12_42 (fun _ => rfl) ((u700.2 63 42 (by omega)).trans u689.1) ?_
                          refine s_iconst (v := 1) kx_197_609 (by decide) ?_
                          refine r_sub kx_197_610 ⟨by omega, by omega⟩ ?_
                          refine s_iconst (v := 2) kx_197_611 (by decide) ?_
                          refine r_ast (k := 86) kx_197_612 (tk_86 hT) ⟨by omega, by omega⟩ hI700 (ru_86 (by omega) (by omega)) (fun M722 hI722 u722 => ?_)
                          have hFm722 := hFm700.up u722 rfl
                          have tr723 := (u722.2 63 3 (by omega))
                          have tr724 := (u722.2 63 4 (by omega))
                          have tr725 := (u722.2 63 5 (by omega))
                          have tr726 := (u722.2 63 9 (by omega))
                          have tr727 := (u722.2 63 35 (by omega))
                          have tr728 := (u722.2 63 42 (by omega))
                          have tr729 := (u722.2 63 43 (by omega))
                          have tr730 := (u722.2 63 45 (by omega))
                          refine s_aload_n kx_197_613 rfl ?_
                          refine s_callV2 (k := 63) (s1 := 1) (s2 := 0) (as := []) (rest := []) kx_197_614 kp_197_286 (Or.inl rfl) rfl (tk_63 hT) ki_180 kcl_180 rfl rfl (by decide) (m_180 (d := d) hT hI722) (kV (fun M732 hI732 fr732 v731p => ?_))
                          have hFm732 := hFm722.call fr732 rfl
                          have tr733 := (fr732 63 9 rfl)
                          have tr734 := (fr732 63 35 rfl)
                          have tr735 := (fr732 63 42 rfl)
                          have tr736 := (fr732 63 43 rfl)
                          have tr737 := (fr732 63 45 rfl)
                          have tr738 := rg_63_9 hI732
                          refine s_iconst (v := 1) kx_197_617 (by decide) ?_
                          have hk739 : M732 63 9 = v11 := ((fr732 63 9 rfl).trans ((u722.2 63 9 (by omega)).trans ((u700.2 63 9 (by omega)).trans ((u689.2 63 9 (by omega)).trans ((fr679 63 9 rfl).trans v11e)))))
                          exact s_iret kx_197_618 (Or.inr ⟨kq_197, by omega⟩) ⟨_, _, rfl, rfl, hI732, hFm732, ⟨by omega, by omega, (show LXp M732 from v731p.2), (by omega), (by omega), ⟨(Or.inr (Or.inr ⟨rfl, by omega, Or.inr ⟨((fr732 63 46 rfl).trans ((u722.2 63 46 (by omega)).trans ((u700.2 63 46 (by omega)).trans ((u689.2 63 46 (by omega)).trans ((fr679 63 46 rfl).trans (fr2 63 46 rfl)))))), (B0.fr (B0.up (B0.up (show B0 M689 from hcl698.2.1) u700 (by decide)) u722 ⟨by decide, Or.inl (by decide)⟩) fr732 rfl (fun _ => rfl)), PI.to7 (PI.fr (PI.phase hP711 (Or.inl (by decide)) (by omega) u722) fr732 rfl) (by omega)⟩⟩)), (KP.fr (KP.up (KP.up (KP.up hK688 u689 (by decide)) u700 (by decide)) u722 (by decide)) fr732 (fun _ => rfl))⟩⟩⟩
                      · refine s_aload_n kx_197_585 rfl ?_
                        refine s_aload_n kx_197_586 rfl ?_
                        refine r_getR (k := 63) (f := 40) (k2 := 88) kx_197_587 kp_197_134 (tk_63 hT) kf_12_40 (by decide) (rq_63_40 hI700) ?_
                        refine s_iload_n kx_197_590 rfl ?_
                        refine r_ald (k := 88) kx_197_591 (tk_88 hT) ⟨by omega, by omega⟩ (rg_88 hI700) (fun v740 v740e v740a v740b => ?_)
                        have hpr741 : v740 = M679 88 ((v13 - 1)).toNat := (v740e).symm.trans ((u700.2 88 _ (by omega)).trans (u689.2 88 _ (by omega)))
                        refine s_iconst (v := 0) kx_197_592 (by decide) ?_
                        refine s_callV2 (k := 63) (s1 := 3) (s2 := 0) (as := [(0, 0), (0, v740)]) (rest := []) kx_197_593 kp_197_352 (Or.inl rfl) rfl (tk_63 hT) ki_189 kcl_189 rfl rfl (by decide) (m_189 (d := d + 1) (sort := v740) (v_ := 0) hT hI700 (by omega) (by omega)) (kV (fun M743 hI743 fr743 v742p => ?_))
                        have hFm743 := hFm700.call fr743 rfl
                        have tr744 := (fr743 63 3 rfl)
                        have tr745 := (fr743 63 4 rfl)
                        have tr746 := (fr743 63 5 rfl)
                        have tr747 := (fr743 63 9 rfl)
                        have tr748 := (fr743 63 42 rfl)
                        have tr749 := (fr743 63 43 rfl)
                        have tr750 := (fr743 63 45 rfl)
                        have tr751 := rg_63_9 hI743
                        have hP752 := PI.code4 hP709 (by omega) (hcl698.2.2.2 (by omega)) fr743 v742p.1 (v742p.2.1.trans hpr741) v742p.2.2
                        have hK753 := KP.add (KP.up (KP.up hK688 u689 (by decide)) u700 (by decide)) ((u700.2 63 36 (by omega)).trans ((u689.2 63 36 (by omega)).trans ((fr679 63 36 rfl).trans (fr2 63 36 rfl)))) ⟨(rg_63_35 hI700).1, by omega⟩ (rg_63_36 hI700).1 v742p.2.2
                        refine s_iload_n kx_197_596 rfl ?_
                        refine s_iconst (v := 5) kx_197_597 (by decide) ?_
                        refine s_icmp_ne (t := 613) kx_197_598 (by decide) (fun hc754 => ?_) (fun hc754 => absurd hc754 (by omega))
                        refine s_aload_n kx_197_613 rfl ?_
                        refine s_callV2 (k := 63) (s1 := 1) (s2 := 0) (as := []) (rest := []) kx_197_614 kp_197_286 (Or.inl rfl) rfl (tk_63 hT) ki_180 kcl_180 rfl rfl (by decide) (m_180 (d := d) hT hI743) (kV (fun M756 hI756 fr756 v755p => ?_))
                        have hFm756 := hFm743.call fr756 rfl
                        have tr757 := (fr756 63 9 rfl)
                        have tr758 := (fr756 63 35 rfl)
                        have tr759 := (fr756 63 42 rfl)
                        have tr760 := (fr756 63 43 rfl)
                        have tr761 := (fr756 63 45 rfl)
                        have tr762 := rg_63_9 hI756
                        refine s_iconst (v := 1) kx_197_617 (by decide) ?_
                        have hk763 : M756 63 9 = v11 := ((fr756 63 9 rfl).trans ((fr743 63 9 rfl).trans ((u700.2 63 9 (by omega)).trans ((u689.2 63 9 (by omega)).trans ((fr679 63 9 rfl).trans v11e)))))
                        exact s_iret kx_197_618 (Or.inr ⟨kq_197, by omega⟩) ⟨_, _, rfl, rfl, hI756, hFm756, ⟨by omega, by omega, (show LXp M756 from v755p.2), (by omega), (by omega), ⟨(Or.inr (Or.inr ⟨rfl, by omega, Or.inr ⟨((fr756 63 46 rfl).trans ((fr743 63 46 rfl).trans ((u700.2 63 46 (by omega)).trans ((u689.2 63 46 (by omega)).trans ((fr679 63 46 rfl).trans (fr2 63 46 rfl)))))), (B0.fr (B0.fr (B0.up (show B0 M689 from hcl698.2.1) u700 (by decide)) fr743 rfl (fun _ => rfl)) fr756 rfl (fun _ => rfl)), PI.to7 (PI.fr hP752 fr756 rfl) (by omega)⟩⟩)), (KP.fr hK753 fr756 (fun _ => rfl))⟩⟩⟩
                    · replace v675p := v675p.resolve_left (by omega)
                      refine s_aload_n kx_197_537 rfl ?_
                      refine s_iconst (v := 1) kx_197_538 (by decide) ?_
                      refine s_aload_n kx_197_539 rfl ?_
                      refine r_getI (k := 63) (f := 4) kx_197_540 kp_197_23 (tk_63 hT) kf_12_4 (fun _ => rfl) (rg_63_4 hI2) (fun v764 v764e v764a v764b => ?_)
                      have v764z : M 63 4 = v764 := ((fr2 63 4 rfl)).symm.trans v764e
                      refine s_callV2 (k := 63) (s1 := 3) (s2 := 0) (as := [(0, v764), (0, 1)]) (rest := []) kx_197_543 kp_197_263 (Or.inl rfl) rfl (tk_63 hT) ki_176 kcl_176 rfl rfl (by decide) (m_176 (d := d + 1) (kind := 1) (place := v764) hT hI2 (by omega)) (kV (fun M766 hI766 fr766 v765p => ?_))
                      have hFm766 := hFm2.call fr766 rfl
                      have tr767 := (fr766 63 3 rfl)
                      have tr768 := (fr766 63 4 rfl)
                      have tr769 := (fr766 63 5 rfl)
                      have tr770 := (fr766 63 35 rfl)
                      have tr771 := (fr766 63 42 rfl)
                      have tr772 := (fr766 63 43 rfl)
                      have tr773 := (fr766 63 45 rfl)
                      have tr774 := rg_63_9 hI766
                      refine s_aload_n kx_197_546 rfl ?_
                      refine r_getI (k := 63) (f := 9) kx_197_547 kp_197_39 (tk_63 hT) kf_12_9 (fun _ => rfl) (rg_63_9 hI766) (fun v775 v775e v775a v775b => ?_)
                      refine s_if_le (t := 555) kx_197_550 (by decide) (fun hc776 => ?_) (fun hc776 => ?_)
                      · refine s_aload_n kx_197_555 rfl ?_
                        refine s_iconst (v := 1) kx_197_556 (by decide) ?_
                        refine s_callV2 (k := 63) (s1 := 2) (s2 := 0) (as := [(0, 1)]) (rest := []) kx_197_557 kp_197_370 (Or.inl rfl) rfl (tk_63 hT) ki_191 kcl_191 rfl rfl (by decide) (m_191 (d := d) (least := 1) hT hI766 (PI.fr (PI.fr hP fr2 rfl) fr766 rfl) (by omega) (by omega) (by omega)) (kV (fun M778 hI778 fr778 v777p => ?_))
                        have hFm778 := hFm766.call fr778 rfl
                        have tr779 := (fr778 63 3 rfl)
                        have tr780 := (fr778 63 4 rfl)
                        have tr781 := (fr778 63 5 rfl)
                        have tr782 := (fr778 63 9 rfl)
                        have tr783 := (fr778 63 42 rfl)
                        have tr784 := rg_63_9 hI778
                        have hd785 := PI.deep v777p.1
                        have hs786 := PI.small v777p.1 (rg_63_43 hI778).2 (by decide)
                        have hs786a := hs786.1
                        have hs786b := hs786.2.1
                        have hs786c := rg_63_45 hI778
                        have hK787 := KP.trans (KP.fr (KP.fr (KP.refl (M := M)) fr2 (fun _ => rfl)) fr766 (fun _ => rfl)) ((fr766 63 36 rfl).trans (fr2 63 36 rfl)) v777p.2
                        refine s_aload_n kx_197_560 rfl ?_
                        refine s_dup kx_197_561 rfl ?_
                        refine r_getK (k := 63) (f := 42) kx_197_562 kp_197_140 (tk_63 hT) kf_12_42 (fun _ => rfl) ((fr778 63 42 rfl).trans ((fr766 63 42 rfl).trans v13e)) ?_
                        refine s_iconst (v := 1) kx_197_565 (by decide) ?_
                        refine r_sub kx_197_566 ⟨by omega, by omega⟩ ?_
                        refine r_put (k := 63) (f := 42) kx_197_567 kp_197_140 (tk_63 hT) kf_12_42 rfl (by decide) (by decide) hI778 (ru_63_42 (by omega) (by omega)) (fun M788 hI788 u788 => ?_)
                        have hFm788 := hFm778.up u788 rfl
                        have tr789 := (u788.2 63 3 (by omega))
                        have tr790 := (u788.2 63 4 (by omega))
                        have tr791 := (u788.2 63 5 (by omega))
                        have tr792 := (u788.2 63 9 (by omega))
                        have tr793 := (u788.2 63 35 (by omega))
                        have tr794 := u788.1
                        have tr795 := (u788.2 63 43 (by omega))
                        have tr796 := (u788.2 63 45 (by omega))
                        have hcl797 := PI.close v777p.1 (by decide) (f := (v13 - 1)) (by omega) ((fr778 85 _ rfl).trans ((fr766 85 _ rfl).trans v14e)) (by omega) u788 (by omega)
                        have hcl797d := hcl797.2.2.1
                        have hcl797q := PI.deep hcl797.1
                        refine s_aload_n kx_197_570 rfl ?_
                        refine s_dup kx_197_571 rfl ?_
                        refine r_getI (k := 63) (f := 43) kx_197_572 kp_197_143 (tk_63 hT) kf_12_43 (fun _ => rfl) (rg_63_43 hI788) (fun v798 v798e v798a v798b => ?_)
                        refine s_iconst (v := 1) kx_197_575 (by decide) ?_
                        refine r_sub kx_197_576 ⟨by omega, by omega⟩ ?_
                        have hcl797e := PI.e_le hcl797.1
                        refine r_put (k := 63) (f := 43) kx_197_577 kp_197_143 (tk_63 hT) kf_12_43 rfl (by decide) (by decide) hI788 (ru_63_43 (by omega) (by omega)) (fun M799 hI799 u799 => ?_)
                        have hFm799 := hFm788.up u799 rfl
                        have tr800 := (u799.2 63 3 (by omega))
                        have tr801 := (u799.2 63 4 (by omega))
                        have tr802 := (u799.2 63 5 (by omega))
                        have tr803 := (u799.2 63 9 (by omega))
                        have tr804 := (u799.2 63 35 (by omega))
                        have tr805 := (u799.2 63 42 (by omega))
                        have tr806 := u799.1
                        have tr807 := (u799.2 63 45 (by omega))
                        have hP808 := (PI.opn (e' := 0) hcl797.1 u799 (by omega))
                        refine s_iload_n kx_197_580 rfl ?_
                        refine s_iconst (v := 4) kx_197_581 (by decide) ?_
                        refine s_icmp_ne (t := 596) kx_197_582 (by decide) (fun hc809 => ?_) (fun hc809 => ?_)
                        · have hP810 := PI.comp0 hP808 (by omega)
                          refine s_iload_n kx_197_596 rfl ?_
                          refine s_iconst (v := 5) kx_197_597 (by decide) ?_
                          refine s_icmp_ne (t := 613) kx_197_598 (by decide) (fun hc811 => ?_) (fun hc811 => ?_)
                          · refine s_aload_n kx_197_613 rfl ?_
                            refine s_callV2 (k := 63) (s1 := 1) (s2 := 0) (as := []) (rest := []) kx_197_614 kp_197_286 (Or.inl rfl) rfl (tk_63 hT) ki_180 kcl_180 rfl rfl (by decide) (m_180 (d := d) hT hI799) (kV (fun M813 hI813 fr813 v812p => ?_))
                            have hFm813 := hFm799.call fr813 rfl
                            have tr814 := (fr813 63 9 rfl)
                            have tr815 := (fr813 63 35 rfl)
                            have tr816 := (fr813 63 42 rfl)
                            have tr817 := (fr813 63 43 rfl)
                            have tr818 := (fr813 63 45 rfl)
                            have tr819 := rg_63_9 hI813
                            refine s_iconst (v := 1) kx_197_617 (by decide) ?_
                            have hk820 : M813 63 9 = v775 := ((fr813 63 9 rfl).trans ((u799.2 63 9 (by omega)).trans ((u788.2 63 9 (by omega)).trans ((fr778 63 9 rfl).trans v775e))))
                            exact s_iret kx_197_618 (Or.inr ⟨kq_197, by omega⟩) ⟨_, _, rfl, rfl, hI813, hFm813, ⟨by omega, by omega, (show LXp M813 from v812p.2), (by omega), (by omega), ⟨(Or.inr (Or.inr ⟨rfl, by omega, Or.inr ⟨((fr813 63 46 rfl).trans ((u799.2 63 46 (by omega)).trans ((u788.2 63 46 (by omega)).trans ((fr778 63 46 rfl).trans ((fr766 63 46 rfl).trans (fr2 63 46 rfl)))))), (B0.fr (B0.up (show B0 M788 from hcl797.2.1) u799 (by decide)) fr813 rfl (fun _ => rfl)), PI.to7 (PI.fr hP810 fr813 rfl) (by omega)⟩⟩)), (KP.fr (KP.up (KP.up hK787 u788 (by decide)) u799 (by decide)) fr813 (fun _ => rfl))⟩⟩⟩
                          · refine s_aload_n kx_197_601 rfl ?_
                            refine r_getR (k := 63) (f := 38) (k2 := 86) kx_197_602 kp_197_127 (tk_63 hT) kf_12_38 (by decide) (rq_63_38 hI799) ?_
                            refine s_aload_n kx_197_605 rfl ?_
                            refine r_getK (k := 63) (f := 42) kx_197_606 kp_197_140 (tk_63 hT) kf_12_42 (fun _ => rfl) ((u799.2 63 42 (by omega)).trans u788.1) ?_
                            refine s_iconst (v := 1) kx_197_609 (by decide) ?_
                            refine r_sub kx_197_610 ⟨by omega, by omega⟩ ?_
                            refine s_iconst (v := 2) kx_197_611 (by decide) ?_
                            refine r_ast (k := 86) kx_197_612 (tk_86 hT) ⟨by omega, by omega⟩ hI799 (ru_86 (by omega) (by omega)) (fun M821 hI821 u821 => ?_)
                            have hFm821 := hFm799.up u821 rfl
                            have tr822 := (u821.2 63 3 (by omega))
                            have tr823 := (u821.2 63 4 (by omega))
                            have tr824 := (u821.2 63 5 (by omega))
                            have tr825 := (u821.2 63 9 (by omega))
                            have tr826 := (u821.2 63 35 (by omega))
                            have tr827 := (u821.2 63 42 (by omega))
                            have tr828 := (u821.2 63 43 (by omega))
                            have tr829 := (u821.2 63 45 (by omega))
                            refine s_aload_n kx_197_613 rfl ?_
                            refine s_callV2 (k := 63) (s1 := 1) (s2 := 0) (as := []) (rest := []) kx_197_614 kp_197_286 (Or.inl rfl) rfl (tk_63 hT) ki_180 kcl_180 rfl rfl (by decide) (m_180 (d := d) hT hI821) (kV (fun M831 hI831 fr831 v830p => ?_))
                            have hFm831 := hFm821.call fr831 rfl
                            have tr832 := (fr831 63 9 rfl)
                            have tr833 := (fr831 63 35 rfl)
                            have tr834 := (fr831 63 42 rfl)
                            have tr835 := (fr831 63 43 rfl)
                            have tr836 := (fr831 63 45 rfl)
                            have tr837 := rg_63_9 hI831
                            refine s_iconst (v := 1) kx_197_617 (by decide) ?_
                            have hk838 : M831 63 9 = v775 := ((fr831 63 9 rfl).trans ((u821.2 63 9 (by omega)).trans ((u799.2 63 9 (by omega)).trans ((u788.2 63 9 (by omega)).trans ((fr778 63 9 rfl).trans v775e)))))
                            exact s_iret kx_197_618 (Or.inr ⟨kq_197, by omega⟩) ⟨_, _, rfl, rfl, hI831, hFm831, ⟨by omega, by omega, (show LXp M831 from v830p.2), (by omega), (by omega), ⟨(Or.inr (Or.inr ⟨rfl, by omega, Or.inr ⟨((fr831 63 46 rfl).trans ((u821.2 63 46 (by omega)).trans ((u799.2 63 46 (by omega)).trans ((u788.2 63 46 (by omega)).trans ((fr778 63 46 rfl).trans ((fr766 63 46 rfl).trans (fr2 63 46 rfl))))))), (B0.fr (B0.up (B0.up (show B0 M788 from hcl797.2.1) u799 (by decide)) u821 ⟨by decide, Or.inl (by decide)⟩) fr831 rfl (fun _ => rfl)), PI.to7 (PI.fr (PI.phase hP810 (Or.inl (by decide)) (by omega) u821) fr831 rfl) (by omega)⟩⟩)), (KP.fr (KP.up (KP.up (KP.up hK787 u788 (by decide)) u799 (by decide)) u821 (by decide)) fr831 (fun _ => rfl))⟩⟩⟩
                        · refine s_aload_n kx_197_585 rfl ?_
                          refine s_aload_n kx_197_586 rfl ?_
                          refine r_getR (k := 63) (f := 40) (k2 := 88) kx_197_587 kp_197_134 (tk_63 hT) kf_12_40 (by decide) (rq_63_40 hI799) ?_
                          refine s_iload_n kx_197_590 rfl ?_
                          refine r_ald (k := 88) kx_197_591 (tk_88 hT) ⟨by omega, by omega⟩ (rg_88 hI799) (fun v839 v839e v839a v839b => ?_)
                          have hpr840 : v839 = M778 88 ((v13 - 1)).toNat := (v839e).symm.trans ((u799.2 88 _ (by omega)).trans (u788.2 88 _ (by omega)))
                          refine s_iconst (v := 0) kx_197_592 (by decide) ?_
                          refine s_callV2 (k := 63) (s1 := 3) (s2 := 0) (as := [(0, 0), (0, v839)]) (rest := []) kx_197_593 kp_197_352 (Or.inl rfl) rfl (tk_63 hT) ki_189 kcl_189 rfl rfl (by decide) (m_189 (d := d + 1) (sort := v839) (v_ := 0) hT hI799 (by omega) (by omega)) (kV (fun M842 hI842 fr842 v841p => ?_))
                          have hFm842 := hFm799.call fr842 rfl
                          have tr843 := (fr842 63 3 rfl)
                          have tr844 := (fr842 63 4 rfl)
                          have tr845 := (fr842 63 5 rfl)
                          have tr846 := (fr842 63 9 rfl)
                          have tr847 := (fr842 63 42 rfl)
                          have tr848 := (fr842 63 43 rfl)
                          have tr849 := (fr842 63 45 rfl)
                          have tr850 := rg_63_9 hI842
                          have hP851 := PI.code4 hP808 (by omega) (hcl797.2.2.2 (by omega)) fr842 v841p.1 (v841p.2.1.trans hpr840) v841p.2.2
                          have hK852 := KP.add (KP.up (KP.up hK787 u788 (by decide)) u799 (by decide)) ((u799.2 63 36 (by omega)).trans ((u788.2 63 36 (by omega)).trans ((fr778 63 36 rfl).trans ((fr766 63 36 rfl).trans (fr2 63 36 rfl))))) ⟨(rg_63_35 hI799).1, by omega⟩ (rg_63_36 hI799).1 v841p.2.2
                          refine s_iload_n kx_197_596 rfl ?_
                          refine s_iconst (v := 5) kx_197_597 (by decide) ?_
                          refine s_icmp_ne (t := 613) kx_197_598 (by decide) (fun hc853 => ?_) (fun hc853 => absurd hc853 (by omega))
                          refine s_aload_n kx_197_613 rfl ?_
                          refine s_callV2 (k := 63) (s1 := 1) (s2 := 0) (as := []) (rest := []) kx_197_614 kp_197_286 (Or.inl rfl) rfl (tk_63 hT) ki_180 kcl_180 rfl rfl (by decide) (m_180 (d := d) hT hI842) (kV (fun M855 hI855 fr855 v854p => ?_))
                          have hFm855 := hFm842.call fr855 rfl
                          have tr856 := (fr855 63 9 rfl)
                          have tr857 := (fr855 63 35 rfl)
                          have tr858 := (fr855 63 42 rfl)
                          have tr859 := (fr855 63 43 rfl)
                          have tr860 := (fr855 63 45 rfl)
                          have tr861 := rg_63_9 hI855
                          refine s_iconst (v := 1) kx_197_617 (by decide) ?_
                          have hk862 : M855 63 9 = v775 := ((fr855 63 9 rfl).trans ((fr842 63 9 rfl).trans ((u799.2 63 9 (by omega)).trans ((u788.2 63 9 (by omega)).trans ((fr778 63 9 rfl).trans v775e)))))
                          exact s_iret kx_197_618 (Or.inr ⟨kq_197, by omega⟩) ⟨_, _, rfl, rfl, hI855, hFm855, ⟨by omega, by omega, (show LXp M855 from v854p.2), (by omega), (by omega), ⟨(Or.inr (Or.inr ⟨rfl, by omega, Or.inr ⟨((fr855 63 46 rfl).trans ((fr842 63 46 rfl).trans ((u799.2 63 46 (by omega)).trans ((u788.2 63 46 (by omega)).trans ((fr778 63 46 rfl).trans ((fr766 63 46 rfl).trans (fr2 63 46 rfl))))))), (B0.fr (B0.fr (B0.up (show B0 M788 from hcl797.2.1) u799 (by decide)) fr842 rfl (fun _ => rfl)) fr855 rfl (fun _ => rfl)), PI.to7 (PI.fr hP851 fr855 rfl) (by omega)⟩⟩)), (KP.fr hK852 fr855 (fun _ => rfl))⟩⟩⟩
                      · refine s_iconst (v := 0) kx_197_553 (by decide) ?_
                        have hk863 : M766 63 4 = v764 := ((fr766 63 4 rfl).trans v764e)
                        have hk864 : M766 63 9 = v775 := v775e
                        exact s_iret kx_197_554 (Or.inr ⟨kq_197, by omega⟩) ⟨_, _, rfl, rfl, hI766, hFm766, ⟨by omega, by omega, (LXp.fr (LXp.fr hX fr2 rfl) fr766 rfl), (by omega), (by omega), ⟨(Or.inl (by omega)), (KP.fr (KP.fr (KP.refl (M := M)) fr2 (fun _ => rfl)) fr766 (fun _ => rfl))⟩⟩⟩
                  refine s_icmp_ne (t := 529) kx_197_521 (by decide) (fun hc668 => ?_) (fun hc668 => ?_)
                  · have hJ669 : Fr fS_197_j521 M2 M2 := Fr.refl
                    refine s_bipush (v := 41) kx_197_529 (by decide) ?_
                    exact cP.wk (lS1 rfl (lS1 rfl (lS1 rfl lS0))) (jn672 41 (by omega) (by omega))
                  · have hJ670 : Fr fS_197_j521 M2 M2 := Fr.refl
                    refine s_bipush (v := 93) kx_197_524 (by decide) ?_
                    refine s_goto (t := 531) kx_197_526 (by decide) ?_
                    exact cP.wk (lS1 rfl (lS1 rfl (lS1 rfl lS0))) (jn672 93 (by omega) (by omega))
                · refine s_aload_n kx_197_452 rfl ?_
                  refine s_bipush (v := 44) kx_197_453 (by decide) ?_
                  refine s_callV2 (k := 63) (s1 := 2) (s2 := 0) (as := [(0, 44)]) (rest := []) kx_197_455 kp_197_283 (Or.inl rfl) rfl (tk_63 hT) ki_181 kcl_181 rfl rfl (by decide) (m_181 (d := d + 1) (c := 44) hT hI2) (kF (fun v865 v865p => ?_))
                  refine s_if_ne (t := 470) kx_197_458 (by decide) (fun hc866 => ?_) (fun hc866 => ?_)
                  · replace v865p := v865p.resolve_right (by omega)
                    refine s_aload_n kx_197_470 rfl ?_
                    refine r_getK (k := 63) (f := 9) kx_197_471 kp_197_39 (tk_63 hT) kf_12_9 (fun _ => rfl) v11e ?_
                    refine s_if_le (t := 479) kx_197_474 (by decide) (fun hc867 => ?_) (fun hc867 => absurd hc867 (by omega))
                    refine s_aload_n kx_197_479 rfl ?_
                    refine s_iconst (v := 1) kx_197_480 (by decide) ?_
                    refine s_callV2 (k := 63) (s1 := 2) (s2 := 0) (as := [(0, 1)]) (rest := []) kx_197_481 kp_197_370 (Or.inl rfl) rfl (tk_63 hT) ki_191 kcl_191 rfl rfl (by decide) (m_191 (d := d) (least := 1) hT hI2 (PI.fr hP fr2 rfl) (by omega) (by omega) (by omega)) (kV (fun M869 hI869 fr869 v868p => ?_))
                    have hFm869 := hFm2.call fr869 rfl
                    have tr870 := (fr869 63 3 rfl)
                    have tr871 := (fr869 63 4 rfl)
                    have tr872 := (fr869 63 5 rfl)
                    have tr873 := (fr869 63 9 rfl)
                    have tr874 := (fr869 63 42 rfl)
                    have tr875 := rg_63_9 hI869
                    have hd876 := PI.deep v868p.1
                    have hs877 := PI.small v868p.1 (rg_63_43 hI869).2 (by decide)
                    have hs877a := hs877.1
                    have hs877b := hs877.2.1
                    have hs877c := rg_63_45 hI869
                    have hK878 := KP.trans (KP.fr (KP.refl (M := M)) fr2 (fun _ => rfl)) (fr2 63 36 rfl) v868p.2
                    have hk85879 : M869 85 ((v13 - 1)).toNat = v14 := ((fr869 85 _ rfl).trans v14e)
                    refine s_aload_n kx_197_484 rfl ?_
                    refine r_getR (k := 63) (f := 37) (k2 := 85) kx_197_485 kp_197_124 (tk_63 hT) kf_12_37 (by decide) (rq_63_37 hI869) ?_
                    refine s_iload_n kx_197_488 rfl ?_
                    refine s_iload_n kx_197_489 rfl ?_
                    refine s_iconst (v := 3) kx_197_490 (by decide) ?_
                    refine s_icmp_ne (t := 498) kx_197_491 (by decide) (fun hc880 => ?_) (fun hc880 => absurd hc880 (by omega))
                    refine s_iconst (v := 3) kx_197_498 (by decide) ?_
                    refine r_ast (k := 85) kx_197_499 (tk_85 hT) ⟨by omega, by omega⟩ hI869 (ru_85 (by omega) (by omega)) (fun M881 hI881 u881 => ?_)
                    have hFm881 := hFm869.up u881 rfl
                    have tr882 := (u881.2 63 3 (by omega))
                    have tr883 := (u881.2 63 4 (by omega))
                    have tr884 := (u881.2 63 5 (by omega))
                    have tr885 := (u881.2 63 9 (by omega))
                    have tr886 := (u881.2 63 35 (by omega))
                    have tr887 := (u881.2 63 42 (by omega))
                    have tr888 := (u881.2 63 43 (by omega))
                    have tr889 := (u881.2 63 45 (by omega))
                    refine s_aload_n kx_197_500 rfl ?_
                    refine r_getR (k := 63) (f := 38) (k2 := 86) kx_197_501 kp_197_127 (tk_63 hT) kf_12_38 (by decide) (rq_63_38 hI881) ?_
                    refine s_iload_n kx_197_504 rfl ?_
                    refine s_iconst (v := 0) kx_197_505 (by decide) ?_
                    refine r_ast (k := 86) kx_197_506 (tk_86 hT) ⟨by omega, by omega⟩ hI881 (ru_86 (by omega) (by omega)) (fun M890 hI890 u890 => ?_)
                    have hFm890 := hFm881.up u890 rfl
                    have tr891 := (u890.2 63 3 (by omega))
                    have tr892 := (u890.2 63 4 (by omega))
                    have tr893 := (u890.2 63 5 (by omega))
                    have tr894 := (u890.2 63 9 (by omega))
                    have tr895 := (u890.2 63 35 (by omega))
                    have tr896 := (u890.2 63 42 (by omega))
                    have tr897 := (u890.2 63 43 (by omega))
                    have tr898 := (u890.2 63 45 (by omega))
                    refine s_aload_n kx_197_507 rfl ?_
                    refine s_callV2 (k := 63) (s1 := 1) (s2 := 0) (as := []) (rest := []) kx_197_508 kp_197_286 (Or.inl rfl) rfl (tk_63 hT) ki_180 kcl_180 rfl rfl (by decide) (m_180 (d := d) hT hI890) (kV (fun M900 hI900 fr900 v899p => ?_))
                    have hFm900 := hFm890.call fr900 rfl
                    have tr901 := (fr900 63 9 rfl)
                    have tr902 := (fr900 63 35 rfl)
                    have tr903 := (fr900 63 42 rfl)
                    have tr904 := (fr900 63 43 rfl)
                    have tr905 := (fr900 63 45 rfl)
                    have tr906 := rg_63_9 hI900
                    refine s_aload_n kx_197_511 rfl ?_
                    refine s_iconst (v := 0) kx_197_512 (by decide) ?_
                    refine r_put (k := 63) (f := 46) kx_197_513 kp_197_152 (tk_63 hT) kf_12_46 rfl (by decide) (by decide) hI900 (ru_63_46 (by omega) (by omega)) (fun M907 hI907 u907 => ?_)
                    have hFm907 := hFm900.up u907 rfl
                    have tr908 := (u907.2 63 3 (by omega))
                    have tr909 := (u907.2 63 4 (by omega))
                    have tr910 := (u907.2 63 5 (by omega))
                    have tr911 := (u907.2 63 9 (by omega))
                    have tr912 := (u907.2 63 35 (by omega))
                    have tr913 := (u907.2 63 42 (by omega))
                    have tr914 := (u907.2 63 43 (by omega))
                    have tr915 := (u907.2 63 45 (by omega))
                    refine s_iconst (v := 1) kx_197_516 (by decide) ?_
                    have hk916 : M907 63 9 = v11 := ((u907.2 63 9 (by omega)).trans ((fr900 63 9 rfl).trans ((u890.2 63 9 (by omega)).trans ((u881.2 63 9 (by omega)).trans ((fr869 63 9 rfl).trans v11e)))))
                    exact s_iret kx_197_517 (Or.inr ⟨kq_197, by omega⟩) ⟨_, _, rfl, rfl, hI907, hFm907, ⟨by omega, by omega, (LXp.up (show LXp M900 from v899p.2) u907 (by decide)), (by omega), (by omega), ⟨(Or.inr (Or.inr ⟨rfl, by omega, Or.inl ⟨u907.1, PI.to7 (PI.fr (PI.fr (PI.phase (PI.comma v868p.1 (by omega) (by omega) u881) (Or.inr (by omega)) (by omega) u890) fr900 rfl) (Up.fr u907) rfl) (by omega)⟩⟩)), (KP.up (KP.fr (KP.up (KP.up hK878 u881 (by decide)) u890 (by decide)) fr900 (fun _ => rfl)) u907 (by decide))⟩⟩⟩
                  · replace v865p := v865p.resolve_left (by omega)
                    refine s_aload_n kx_197_461 rfl ?_
                    refine s_iconst (v := 1) kx_197_462 (by decide) ?_
                    refine s_aload_n kx_197_463 rfl ?_
                    refine r_getI (k := 63) (f := 4) kx_197_464 kp_197_23 (tk_63 hT) kf_12_4 (fun _ => rfl) (rg_63_4 hI2) (fun v917 v917e v917a v917b => ?_)
                    have v917z : M 63 4 = v917 := ((fr2 63 4 rfl)).symm.trans v917e
                    refine s_callV2 (k := 63) (s1 := 3) (s2 := 0) (as := [(0, v917), (0, 1)]) (rest := []) kx_197_467 kp_197_263 (Or.inl rfl) rfl (tk_63 hT) ki_176 kcl_176 rfl rfl (by decide) (m_176 (d := d + 1) (kind := 1) (place := v917) hT hI2 (by omega)) (kV (fun M919 hI919 fr919 v918p => ?_))
                    have hFm919 := hFm2.call fr919 rfl
                    have tr920 := (fr919 63 3 rfl)
                    have tr921 := (fr919 63 4 rfl)
                    have tr922 := (fr919 63 5 rfl)
                    have tr923 := (fr919 63 35 rfl)
                    have tr924 := (fr919 63 42 rfl)
                    have tr925 := (fr919 63 43 rfl)
                    have tr926 := (fr919 63 45 rfl)
                    have tr927 := rg_63_9 hI919
                    refine s_aload_n kx_197_470 rfl ?_
                    refine r_getI (k := 63) (f := 9) kx_197_471 kp_197_39 (tk_63 hT) kf_12_9 (fun _ => rfl) (rg_63_9 hI919) (fun v928 v928e v928a v928b => ?_)
                    refine s_if_le (t := 479) kx_197_474 (by decide) (fun hc929 => ?_) (fun hc929 => ?_)
                    · refine s_aload_n kx_197_479 rfl ?_
                      refine s_iconst (v := 1) kx_197_480 (by decide) ?_
                      refine s_callV2 (k := 63) (s1 := 2) (s2 := 0) (as := [(0, 1)]) (rest := []) kx_197_481 kp_197_370 (Or.inl rfl) rfl (tk_63 hT) ki_191 kcl_191 rfl rfl (by decide) (m_191 (d := d) (least := 1) hT hI919 (PI.fr (PI.fr hP fr2 rfl) fr919 rfl) (by omega) (by omega) (by omega)) (kV (fun M931 hI931 fr931 v930p => ?_))
                      have hFm931 := hFm919.call fr931 rfl
                      have tr932 := (fr931 63 3 rfl)
                      have tr933 := (fr931 63 4 rfl)
                      have tr934 := (fr931 63 5 rfl)
                      have tr935 := (fr931 63 9 rfl)
                      have tr936 := (fr931 63 42 rfl)
                      have tr937 := rg_63_9 hI931
                      have hd938 := PI.deep v930p.1
                      have hs939 := PI.small v930p.1 (rg_63_43 hI931).2 (by decide)
                      have hs939a := hs939.1
                      have hs939b := hs939.2.1
                      have hs939c := rg_63_45 hI931
                      have hK940 := KP.trans (KP.fr (KP.fr (KP.refl (M := M)) fr2 (fun _ => rfl)) fr919 (fun _ => rfl)) ((fr919 63 36 rfl).trans (fr2 63 36 rfl)) v930p.2
                      have hk85941 : M931 85 ((v13 - 1)).toNat = v14 := ((fr931 85 _ rfl).trans ((fr919 85 _ rfl).trans v14e))
                      refine s_aload_n kx_197_484 rfl ?_
                      refine r_getR (k := 63) (f := 37) (k2 := 85) kx_197_485 kp_197_124 (tk_63 hT) kf_12_37 (by decide) (rq_63_37 hI931) ?_
                      refine s_iload_n kx_197_488 rfl ?_
                      refine s_iload_n kx_197_489 rfl ?_
                      refine s_iconst (v := 3) kx_197_490 (by decide) ?_
                      refine s_icmp_ne (t := 498) kx_197_491 (by decide) (fun hc942 => ?_) (fun hc942 => absurd hc942 (by omega))
                      refine s_iconst (v := 3) kx_197_498 (by decide) ?_
                      refine r_ast (k := 85) kx_197_499 (tk_85 hT) ⟨by omega, by omega⟩ hI931 (ru_85 (by omega) (by omega)) (fun M943 hI943 u943 => ?_)
                      have hFm943 := hFm931.up u943 rfl
                      have tr944 := (u943.2 63 3 (by omega))
                      have tr945 := (u943.2 63 4 (by omega))
                      have tr946 := (u943.2 63 5 (by omega))
                      have tr947 := (u943.2 63 9 (by omega))
                      have tr948 := (u943.2 63 35 (by omega))
                      have tr949 := (u943.2 63 42 (by omega))
                      have tr950 := (u943.2 63 43 (by omega))
                      have tr951 := (u943.2 63 45 (by omega))
                      refine s_aload_n kx_197_500 rfl ?_
                      refine r_getR (k := 63) (f := 38) (k2 := 86) kx_197_501 kp_197_127 (tk_63 hT) kf_12_38 (by decide) (rq_63_38 hI943) ?_
                      refine s_iload_n kx_197_504 rfl ?_
                      refine s_iconst (v := 0) kx_197_505 (by decide) ?_
                      refine r_ast (k := 86) kx_197_506 (tk_86 hT) ⟨by omega, by omega⟩ hI943 (ru_86 (by omega) (by omega)) (fun M952 hI952 u952 => ?_)
                      have hFm952 := hFm943.up u952 rfl
                      have tr953 := (u952.2 63 3 (by omega))
                      have tr954 := (u952.2 63 4 (by omega))
                      have tr955 := (u952.2 63 5 (by omega))
                      have tr956 := (u952.2 63 9 (by omega))
                      have tr957 := (u952.2 63 35 (by omega))
                      have tr958 := (u952.2 63 42 (by omega))
                      have tr959 := (u952.2 63 43 (by omega))
                      have tr960 := (u952.2 63 45 (by omega))
                      refine s_aload_n kx_197_507 rfl ?_
                      refine s_callV2 (k := 63) (s1 := 1) (s2 := 0) (as := []) (rest := []) kx_197_508 kp_197_286 (Or.inl rfl) rfl (tk_63 hT) ki_180 kcl_180 rfl rfl (by decide) (m_180 (d := d) hT hI952) (kV (fun M962 hI962 fr962 v961p => ?_))
                      have hFm962 := hFm952.call fr962 rfl
                      have tr963 := (fr962 63 9 rfl)
                      have tr964 := (fr962 63 35 rfl)
                      have tr965 := (fr962 63 42 rfl)
                      have tr966 := (fr962 63 43 rfl)
                      have tr967 := (fr962 63 45 rfl)
                      have tr968 := rg_63_9 hI962
                      refine s_aload_n kx_197_511 rfl ?_
                      refine s_iconst (v := 0) kx_197_512 (by decide) ?_
                      refine r_put (k := 63) (f := 46) kx_197_513 kp_197_152 (tk_63 hT) kf_12_46 rfl (by decide) (by decide) hI962 (ru_63_46 (by omega) (by omega)) (fun M969 hI969 u969 => ?_)
                      have hFm969 := hFm962.up u969 rfl
                      have tr970 := (u969.2 63 3 (by omega))
                      have tr971 := (u969.2 63 4 (by omega))
                      have tr972 := (u969.2 63 5 (by omega))
                      have tr973 := (u969.2 63 9 (by omega))
                      have tr974 := (u969.2 63 35 (by omega))
                      have tr975 := (u969.2 63 42 (by omega))
                      have tr976 := (u969.2 63 43 (by omega))
                      have tr977 := (u969.2 63 45 (by omega))
                      refine s_iconst (v := 1) kx_197_516 (by decide) ?_
                      have hk978 : M969 63 9 = v928 := ((u969.2 63 9 (by omega)).trans ((fr962 63 9 rfl).trans ((u952.2 63 9 (by omega)).trans ((u943.2 63 9 (by omega)).trans ((fr931 63 9 rfl).trans v928e)))))
                      exact s_iret kx_197_517 (Or.inr ⟨kq_197, by omega⟩) ⟨_, _, rfl, rfl, hI969, hFm969, ⟨by omega, by omega, (LXp.up (show LXp M962 from v961p.2) u969 (by decide)), (by omega), (by omega), ⟨(Or.inr (Or.inr ⟨rfl, by omega, Or.inl ⟨u969.1, PI.to7 (PI.fr (PI.fr (PI.phase (PI.comma v930p.1 (by omega) (by omega) u943) (Or.inr (by omega)) (by omega) u952) fr962 rfl) (Up.fr u969) rfl) (by omega)⟩⟩)), (KP.up (KP.fr (KP.up (KP.up hK940 u943 (by decide)) u952 (by decide)) fr962 (fun _ => rfl)) u969 (by decide))⟩⟩⟩
                    · refine s_iconst (v := 0) kx_197_477 (by decide) ?_
                      have hk979 : M919 63 4 = v917 := ((fr919 63 4 rfl).trans v917e)
                      have hk980 : M919 63 9 = v928 := v928e
                      exact s_iret kx_197_478 (Or.inr ⟨kq_197, by omega⟩) ⟨_, _, rfl, rfl, hI919, hFm919, ⟨by omega, by omega, (LXp.fr (LXp.fr hX fr2 rfl) fr919 rfl), (by omega), (by omega), ⟨(Or.inl (by omega)), (KP.fr (KP.fr (KP.refl (M := M)) fr2 (fun _ => rfl)) fr919 (fun _ => rfl))⟩⟩⟩
            · refine s_aload_n kx_197_427 rfl ?_
              refine r_getK (k := 63) (f := 9) kx_197_428 kp_197_39 (tk_63 hT) kf_12_9 (fun _ => rfl) v11e ?_
              refine s_if_ne (t := 439) kx_197_431 (by decide) (fun hc981 => absurd hc981 (by omega)) (fun hc981 => ?_)
              refine s_aload_n kx_197_434 rfl ?_
              refine s_iconst (v := 1) kx_197_435 (by decide) ?_
              refine s_callV2 (k := 63) (s1 := 2) (s2 := 0) (as := [(0, 1)]) (rest := []) kx_197_436 kp_197_370 (Or.inl rfl) rfl (tk_63 hT) ki_191 kcl_191 rfl rfl (by decide) (m_191 (d := d) (least := 1) hT hI2 (PI.fr hP fr2 rfl) (by omega) (by omega) (by omega)) (kV (fun M983 hI983 fr983 v982p => ?_))
              have hFm983 := hFm2.call fr983 rfl
              have tr984 := (fr983 63 3 rfl)
              have tr985 := (fr983 63 4 rfl)
              have tr986 := (fr983 63 5 rfl)
              have tr987 := (fr983 63 9 rfl)
              have tr988 := (fr983 63 42 rfl)
              have tr989 := rg_63_9 hI983
              have hK990 := KP.trans (KP.fr (KP.refl (M := M)) fr2 (fun _ => rfl)) (fr2 63 36 rfl) v982p.2
              refine s_iconst (v := 0) kx_197_439 (by decide) ?_
              have hk991 : M983 63 9 = v11 := ((fr983 63 9 rfl).trans v11e)
              exact s_iret kx_197_440 (Or.inr ⟨kq_197, by omega⟩) ⟨_, _, rfl, rfl, hI983, hFm983, ⟨by omega, by omega, (LXp.fr (LXp.fr hX fr2 rfl) fr983 rfl), (by omega), (by omega), ⟨(if h9 : 1 ≤ M983 63 9 then Or.inl h9 else Or.inr (Or.inl ⟨rfl, PI.to7 v982p.1 (by omega)⟩)), hK990⟩⟩⟩
          · replace v545p := v545p.resolve_right (by omega)
            refine s_aload_n kx_197_309 rfl ?_
            refine r_getR (k := 63) (f := 38) (k2 := 86) kx_197_310 kp_197_127 (tk_63 hT) kf_12_38 (by decide) (rq_63_38 hI2) ?_
            refine s_iload_n kx_197_313 rfl ?_
            refine r_aldK (k := 86) kx_197_314 (tk_86 hT) ⟨by omega, by omega⟩ v16e ?_
            refine s_if_ne (t := 327) kx_197_315 (by decide) (fun hc992 => ?_) (fun hc992 => absurd hc992 (by omega))
            refine s_aload_n kx_197_327 rfl ?_
            refine r_getK (k := 63) (f := 9) kx_197_328 kp_197_39 (tk_63 hT) kf_12_9 (fun _ => rfl) v11e ?_
            refine s_if_le (t := 336) kx_197_331 (by decide) (fun hc993 => ?_) (fun hc993 => absurd hc993 (by omega))
            refine s_aload_n kx_197_336 rfl ?_
            refine s_ldc2_w kx_197_337 kp_197_327 ?_
            refine s_callV2 (k := 63) (s1 := 3) (s2 := 0) (as := [(1, 6385252)]) (rest := []) kx_197_340 kp_197_361 (Or.inl rfl) rfl (tk_63 hT) ki_182 kcl_182 rfl rfl (by decide) (m_182 (d := d + 1) (w := 6385252) hT hI2) (kF (fun v994 v994p => ?_))
            refine s_istore kx_197_343 km_197_4 rfl ?_
            refine s_aload_n kx_197_345 rfl ?_
            refine s_iload kx_197_346 rfl ?_
            have jn999 : ∀ (y998 : Int), (1 ≤ y998) → (y998 ≤ 2) → ((y998 = 2 ∧ v994 ≠ 0) ∨ (y998 = 1 ∧ v994 = 0)) → cP k_P xs Ln (d + 2) 197 356 [(0, rf 63), (1, (0, (v13 - 1))), (4, (0, v994))] [(0, y998), rf 63] (T, M2) (qW T M fS_197_m 0 (fun v M1 => 0 ≤ v ∧ v ≤ 1 ∧ (LXp M1 ∧ M 63 4 ≤ M1 63 4 ∧ M 63 9 ≤ M1 63 9 ∧ (GOd M M1 c a v ∧ KP M M1)))) := by
              intro y998 a1000 a1001 a1002
              refine s_callV2 (k := 63) (s1 := 2) (s2 := 0) (as := [(0, y998)]) (rest := []) kx_197_356 kp_197_370 (Or.inl rfl) rfl (tk_63 hT) ki_191 kcl_191 rfl rfl (by decide) (m_191 (d := d) (least := y998) hT hI2 (PI.fr hP fr2 rfl) (by omega) (by omega) (by omega)) (kV (fun M1004 hI1004 fr1004 v1003p => ?_))
              have hFm1004 := hFm2.call fr1004 rfl
              have tr1005 := (fr1004 63 3 rfl)
              have tr1006 := (fr1004 63 4 rfl)
              have tr1007 := (fr1004 63 5 rfl)
              have tr1008 := (fr1004 63 9 rfl)
              have tr1009 := (fr1004 63 42 rfl)
              have tr1010 := rg_63_9 hI1004
              have hd1011 := PI.deep v1003p.1
              have hs1012 := PI.small v1003p.1 (rg_63_43 hI1004).2 (by decide)
              have hs1012a := hs1012.1
              have hs1012b := hs1012.2.1
              have hs1012c := rg_63_45 hI1004
              have hK1013 := KP.trans (KP.fr (KP.refl (M := M)) fr2 (fun _ => rfl)) (fr2 63 36 rfl) v1003p.2
              refine s_aload_n kx_197_359 rfl ?_
              refine s_iload kx_197_360 rfl ?_
              have jn1018 : ∀ (y1017 : Int), (20 ≤ y1017) → (y1017 ≤ 21) → ((y1017 = 20 ∧ v994 ≠ 0) ∨ (y1017 = 21 ∧ v994 = 0)) → cP k_P xs Ln (d + 2) 197 372 [(0, rf 63), (1, (0, (v13 - 1)))] [(0, y1017), rf 63] (T, M1004) (qW T M fS_197_m 0 (fun v M1 => 0 ≤ v ∧ v ≤ 1 ∧ (LXp M1 ∧ M 63 4 ≤ M1 63 4 ∧ M 63 9 ≤ M1 63 9 ∧ (GOd M M1 c a v ∧ KP M M1)))) := by
                intro y1017 a1019 a1020 a1021
                refine s_callV2 (k := 63) (s1 := 2) (s2 := 0) (as := [(0, y1017)]) (rest := []) kx_197_372 kp_197_364 (Or.inl rfl) rfl (tk_63 hT) ki_192 kcl_192 rfl rfl (by decide) (m_192 (d := d + 1) (op := y1017) hT hI1004 (by omega) (by omega)) (kV (fun M1023 hI1023 fr1023 v1022p => ?_))
                have hFm1023 := hFm1004.call fr1023 rfl
                have tr1024 := (fr1023 63 3 rfl)
                have tr1025 := (fr1023 63 4 rfl)
                have tr1026 := (fr1023 63 5 rfl)
                have tr1027 := (fr1023 63 9 rfl)
                have tr1028 := (fr1023 63 35 rfl)
                have tr1029 := (fr1023 63 42 rfl)
                have tr1030 := (fr1023 63 43 rfl)
                have tr1031 := rg_63_9 hI1023
                have hP1032 := PI.holdL v1003p.1 (B0.fr (B0.fr hB fr2 rfl (fun _ => rfl)) fr1004 rfl (fun _ => rfl)) (by omega) fr1023 v1022p.1 v1022p.2.1 v1022p.2.2
                refine s_aload_n kx_197_375 rfl ?_
                refine r_getR (k := 63) (f := 38) (k2 := 86) kx_197_376 kp_197_127 (tk_63 hT) kf_12_38 (by decide) (rq_63_38 hI1023) ?_
                refine s_iload_n kx_197_379 rfl ?_
                refine s_iconst (v := 0) kx_197_380 (by decide) ?_
                refine r_ast (k := 86) kx_197_381 (tk_86 hT) ⟨by omega, by omega⟩ hI1023 (ru_86 (by omega) (by omega)) (fun M1033 hI1033 u1033 => ?_)
                have hFm1033 := hFm1023.up u1033 rfl
                have tr1034 := (u1033.2 63 3 (by omega))
                have tr1035 := (u1033.2 63 4 (by omega))
                have tr1036 := (u1033.2 63 5 (by omega))
                have tr1037 := (u1033.2 63 9 (by omega))
                have tr1038 := (u1033.2 63 35 (by omega))
                have tr1039 := (u1033.2 63 42 (by omega))
                have tr1040 := (u1033.2 63 43 (by omega))
                have tr1041 := (u1033.2 63 45 (by omega))
                refine s_aload_n kx_197_382 rfl ?_
                refine r_getR (k := 63) (f := 39) (k2 := 87) kx_197_383 kp_197_130 (tk_63 hT) kf_12_39 (by decide) (rq_63_39 hI1033) ?_
                refine s_iload_n kx_197_386 rfl ?_
                refine s_iconst (v := 1) kx_197_387 (by decide) ?_
                refine r_bast (k := 87) kx_197_388 (tk_87 hT) ⟨by omega, by omega⟩ (by omega) hI1033 (ru_87 (by omega) (by omega)) (fun M1042 hI1042 u1042 => ?_)
                have hFm1042 := hFm1033.up u1042 rfl
                have tr1043 := (u1042.2 63 3 (by omega))
                have tr1044 := (u1042.2 63 4 (by omega))
                have tr1045 := (u1042.2 63 5 (by omega))
                have tr1046 := (u1042.2 63 9 (by omega))
                have tr1047 := (u1042.2 63 35 (by omega))
                have tr1048 := (u1042.2 63 42 (by omega))
                have tr1049 := (u1042.2 63 43 (by omega))
                have tr1050 := (u1042.2 63 45 (by omega))
                refine s_aload_n kx_197_389 rfl ?_
                refine s_callV2 (k := 63) (s1 := 1) (s2 := 0) (as := []) (rest := []) kx_197_390 kp_197_286 (Or.inl rfl) rfl (tk_63 hT) ki_180 kcl_180 rfl rfl (by decide) (m_180 (d := d) hT hI1042) (kV (fun M1052 hI1052 fr1052 v1051p => ?_))
                have hFm1052 := hFm1042.call fr1052 rfl
                have tr1053 := (fr1052 63 9 rfl)
                have tr1054 := (fr1052 63 35 rfl)
                have tr1055 := (fr1052 63 42 rfl)
                have tr1056 := (fr1052 63 43 rfl)
                have tr1057 := (fr1052 63 45 rfl)
                have tr1058 := rg_63_9 hI1052
                refine s_aload_n kx_197_393 rfl ?_
                refine s_iconst (v := 0) kx_197_394 (by decide) ?_
                refine r_put (k := 63) (f := 46) kx_197_395 kp_197_152 (tk_63 hT) kf_12_46 rfl (by decide) (by decide) hI1052 (ru_63_46 (by omega) (by omega)) (fun M1059 hI1059 u1059 => ?_)
                have hFm1059 := hFm1052.up u1059 rfl
                have tr1060 := (u1059.2 63 3 (by omega))
                have tr1061 := (u1059.2 63 4 (by omega))
                have tr1062 := (u1059.2 63 5 (by omega))
                have tr1063 := (u1059.2 63 9 (by omega))
                have tr1064 := (u1059.2 63 35 (by omega))
                have tr1065 := (u1059.2 63 42 (by omega))
                have tr1066 := (u1059.2 63 43 (by omega))
                have tr1067 := (u1059.2 63 45 (by omega))
                refine s_iconst (v := 1) kx_197_398 (by decide) ?_
                have hk1068 : M1059 63 9 = v11 := ((u1059.2 63 9 (by omega)).trans ((fr1052 63 9 rfl).trans ((u1042.2 63 9 (by omega)).trans ((u1033.2 63 9 (by omega)).trans ((fr1023 63 9 rfl).trans ((fr1004 63 9 rfl).trans v11e))))))
                exact s_iret kx_197_399 (Or.inr ⟨kq_197, by omega⟩) ⟨_, _, rfl, rfl, hI1059, hFm1059, ⟨by omega, by omega, (LXp.up (show LXp M1052 from v1051p.2) u1059 (by decide)), (by omega), (by omega), ⟨(Or.inr (Or.inr ⟨rfl, by omega, Or.inl ⟨u1059.1, PI.to7 (PI.fr (PI.fr (PI.begins1 (PI.phase hP1032 (Or.inr (by omega)) (by omega) u1033) (by omega) (by omega) u1042) fr1052 rfl) (Up.fr u1059) rfl) (by omega)⟩⟩)), (KP.up (KP.fr (KP.up (KP.up (KP.fr hK1013 fr1023 (fun _ => rfl)) u1033 (by decide)) u1042 (by decide)) fr1052 (fun _ => rfl)) u1059 (by decide))⟩⟩⟩
              refine s_if_eq (t := 370) kx_197_362 (by decide) (fun hc1014 => ?_) (fun hc1014 => ?_)
              · have hJ1015 : Fr fS_197_j362 M1004 M1004 := Fr.refl
                refine s_bipush (v := 21) kx_197_370 (by decide) ?_
                exact cP.wk (lS1 rfl (lS1 rfl lS0)) (jn1018 21 (by omega) (by omega) (by omega))
              · have hJ1016 : Fr fS_197_j362 M1004 M1004 := Fr.refl
                refine s_bipush (v := 20) kx_197_365 (by decide) ?_
                refine s_goto (t := 372) kx_197_367 (by decide) ?_
                exact cP.wk (lS1 rfl (lS1 rfl lS0)) (jn1018 20 (by omega) (by omega) (by omega))
            refine s_if_eq (t := 355) kx_197_348 (by decide) (fun hc995 => ?_) (fun hc995 => ?_)
            · have hJ996 : Fr fS_197_j348 M2 M2 := Fr.refl
              replace v994p := v994p.resolve_left (by omega)
              refine s_iconst (v := 1) kx_197_355 (by decide) ?_
              exact cP.wk (lS1 rfl (lS1 rfl (lS1 rfl lS0))) (jn999 1 (by omega) (by omega) (by omega))
            · have hJ997 : Fr fS_197_j348 M2 M2 := Fr.refl
              replace v994p := v994p.resolve_right (by omega)
              refine s_iconst (v := 2) kx_197_351 (by decide) ?_
              refine s_goto (t := 356) kx_197_352 (by decide) ?_
              exact cP.wk (lS1 rfl (lS1 rfl (lS1 rfl lS0))) (jn999 2 (by omega) (by omega) (by omega))
    · refine s_aload_n kx_197_42 rfl ?_
      refine s_bipush (v := 43) kx_197_43 (by decide) ?_
      refine s_callV2 (k := 63) (s1 := 2) (s2 := 0) (as := [(0, 43)]) (rest := []) kx_197_45 kp_197_283 (Or.inl rfl) rfl (tk_63 hT) ki_181 kcl_181 rfl rfl (by decide) (m_181 (d := d + 1) (c := 43) hT hI2) (kF (fun v1069 v1069p => ?_))
      refine s_if_ne (t := 87) kx_197_48 (by decide) (fun hc1070 => ?_) (fun hc1070 => ?_)
      · replace v1069p := v1069p.resolve_right (by omega)
        refine s_aload_n kx_197_87 rfl ?_
        refine s_aload_n kx_197_88 rfl ?_
        refine s_bipush (v := 43) kx_197_89 (by decide) ?_
        refine s_callV2 (k := 63) (s1 := 2) (s2 := 1) (as := [(0, 43)]) (rest := [rf 63]) kx_197_91 kp_197_283 (Or.inl rfl) rfl (tk_63 hT) ki_181 kcl_181 rfl rfl (by decide) (m_181 (d := d + 1) (c := 43) hT hI2) (kF (fun v1071 v1071p => ?_))
        have jn1078 : ∀ (y1077 : Int), (5 ≤ y1077) → (y1077 ≤ 6) → ((y1077 = 5 ∧ (isS M2 43 = 1 ∨ isS M2 45 = 1)) ∨ (y1077 = 6 ∧ isS M2 43 = 0 ∧ isS M2 45 = 0)) → cP k_P xs Ln (d + 2) 197 112 [(0, rf 63)] [(0, y1077), rf 63] (T, M2) (qW T M fS_197_m 0 (fun v M1 => 0 ≤ v ∧ v ≤ 1 ∧ (LXp M1 ∧ M 63 4 ≤ M1 63 4 ∧ M 63 9 ≤ M1 63 9 ∧ (GOd M M1 c a v ∧ KP M M1)))) := by
          intro y1077 a1079 a1080 a1081
          refine s_callV2 (k := 63) (s1 := 2) (s2 := 0) (as := [(0, y1077)]) (rest := []) kx_197_112 kp_197_370 (Or.inl rfl) rfl (tk_63 hT) ki_191 kcl_191 rfl rfl (by decide) (m_191 (d := d) (least := y1077) hT hI2 (PI.fr hP fr2 rfl) (by omega) (by omega) (by omega)) (kV (fun M1083 hI1083 fr1083 v1082p => ?_))
          have hFm1083 := hFm2.call fr1083 rfl
          have tr1084 := (fr1083 63 3 rfl)
          have tr1085 := (fr1083 63 4 rfl)
          have tr1086 := (fr1083 63 5 rfl)
          have tr1087 := (fr1083 63 9 rfl)
          have tr1088 := (fr1083 63 42 rfl)
          have tr1089 := rg_63_9 hI1083
          have hd1090 := PI.deep v1082p.1
          have hs1091 := PI.small v1082p.1 (rg_63_43 hI1083).2 (by decide)
          have hs1091a := hs1091.1
          have hs1091b := hs1091.2.1
          have hs1091c := rg_63_45 hI1083
          have hK1092 := KP.trans (KP.fr (KP.refl (M := M)) fr2 (fun _ => rfl)) (fr2 63 36 rfl) v1082p.2
          have hi1093 := isS_fr (c := 43) fr1083 rfl rfl
          have hi1094 := isS_fr (c := 45) fr1083 rfl rfl
          refine s_aload_n kx_197_115 rfl ?_
          refine s_aload_n kx_197_116 rfl ?_
          refine s_bipush (v := 43) kx_197_117 (by decide) ?_
          refine s_callV2 (k := 63) (s1 := 2) (s2 := 1) (as := [(0, 43)]) (rest := [rf 63]) kx_197_119 kp_197_283 (Or.inl rfl) rfl (tk_63 hT) ki_181 kcl_181 rfl rfl (by decide) (m_181 (d := d + 1) (c := 43) hT hI1083) (kF (fun v1095 v1095p => ?_))
          have jn1106 : ∀ (y1105 : Int), (10 ≤ y1105) → (y1105 ≤ 14) → ((y1105 ≤ 11 ∧ (isS M1083 43 = 1 ∨ isS M1083 45 = 1)) ∨ (12 ≤ y1105 ∧ isS M1083 43 = 0 ∧ isS M1083 45 = 0)) → cP k_P xs Ln (d + 2) 197 174 [(0, rf 63)] [(0, y1105), rf 63] (T, M1083) (qW T M fS_197_m 0 (fun v M1 => 0 ≤ v ∧ v ≤ 1 ∧ (LXp M1 ∧ M 63 4 ≤ M1 63 4 ∧ M 63 9 ≤ M1 63 9 ∧ (GOd M M1 c a v ∧ KP M M1)))) := by
            intro y1105 a1107 a1108 a1109
            refine s_callV2 (k := 63) (s1 := 2) (s2 := 0) (as := [(0, y1105)]) (rest := []) kx_197_174 kp_197_364 (Or.inl rfl) rfl (tk_63 hT) ki_192 kcl_192 rfl rfl (by decide) (m_192 (d := d + 1) (op := y1105) hT hI1083 (by omega) (by omega)) (kV (fun M1111 hI1111 fr1111 v1110p => ?_))
            have hFm1111 := hFm1083.call fr1111 rfl
            have tr1112 := (fr1111 63 3 rfl)
            have tr1113 := (fr1111 63 4 rfl)
            have tr1114 := (fr1111 63 5 rfl)
            have tr1115 := (fr1111 63 9 rfl)
            have tr1116 := (fr1111 63 35 rfl)
            have tr1117 := (fr1111 63 42 rfl)
            have tr1118 := (fr1111 63 43 rfl)
            have tr1119 := rg_63_9 hI1111
            have hP1120 := PI.holdA v1082p.1 (B0.fr (B0.fr hB fr2 rfl (fun _ => rfl)) fr1083 rfl (fun _ => rfl)) (by omega) fr1111 v1110p.1 v1110p.2.1 v1110p.2.2
            refine s_aload_n kx_197_177 rfl ?_
            refine s_callV2 (k := 63) (s1 := 1) (s2 := 0) (as := []) (rest := []) kx_197_178 kp_197_286 (Or.inl rfl) rfl (tk_63 hT) ki_180 kcl_180 rfl rfl (by decide) (m_180 (d := d) hT hI1111) (kV (fun M1122 hI1122 fr1122 v1121p => ?_))
            have hFm1122 := hFm1111.call fr1122 rfl
            have tr1123 := (fr1122 63 9 rfl)
            have tr1124 := (fr1122 63 35 rfl)
            have tr1125 := (fr1122 63 42 rfl)
            have tr1126 := (fr1122 63 43 rfl)
            have tr1127 := (fr1122 63 45 rfl)
            have tr1128 := rg_63_9 hI1122
            refine s_aload_n kx_197_181 rfl ?_
            refine s_iconst (v := 0) kx_197_182 (by decide) ?_
            refine r_put (k := 63) (f := 46) kx_197_183 kp_197_152 (tk_63 hT) kf_12_46 rfl (by decide) (by decide) hI1122 (ru_63_46 (by omega) (by omega)) (fun M1129 hI1129 u1129 => ?_)
            have hFm1129 := hFm1122.up u1129 rfl
            have tr1130 := (u1129.2 63 3 (by omega))
            have tr1131 := (u1129.2 63 4 (by omega))
            have tr1132 := (u1129.2 63 5 (by omega))
            have tr1133 := (u1129.2 63 9 (by omega))
            have tr1134 := (u1129.2 63 35 (by omega))
            have tr1135 := (u1129.2 63 42 (by omega))
            have tr1136 := (u1129.2 63 43 (by omega))
            have tr1137 := (u1129.2 63 45 (by omega))
            refine s_iconst (v := 1) kx_197_186 (by decide) ?_
            have hk1138 : M1129 63 9 = v11 := ((u1129.2 63 9 (by omega)).trans ((fr1122 63 9 rfl).trans ((fr1111 63 9 rfl).trans ((fr1083 63 9 rfl).trans v11e))))
            exact s_iret kx_197_187 (Or.inr ⟨kq_197, by omega⟩) ⟨_, _, rfl, rfl, hI1129, hFm1129, ⟨by omega, by omega, (LXp.up (show LXp M1122 from v1121p.2) u1129 (by decide)), (by omega), (by omega), ⟨(Or.inr (Or.inr ⟨rfl, by omega, Or.inl ⟨u1129.1, PI.to7 (PI.fr (PI.fr hP1120 fr1122 rfl) (Up.fr u1129) rfl) (by omega)⟩⟩)), (KP.up (KP.fr (KP.fr hK1092 fr1111 (fun _ => rfl)) fr1122 (fun _ => rfl)) u1129 (by decide))⟩⟩⟩
          refine s_if_eq (t := 130) kx_197_122 (by decide) (fun hc1096 => ?_) (fun hc1096 => ?_)
          · have hJ1097 : Fr fS_197_j122 M1083 M1083 := Fr.refl
            replace v1095p := v1095p.resolve_left (by omega)
            refine s_aload_n kx_197_130 rfl ?_
            refine s_bipush (v := 45) kx_197_131 (by decide) ?_
            refine s_callV2 (k := 63) (s1 := 2) (s2 := 1) (as := [(0, 45)]) (rest := [rf 63]) kx_197_133 kp_197_283 (Or.inl rfl) rfl (tk_63 hT) ki_181 kcl_181 rfl rfl (by decide) (m_181 (d := d + 1) (c := 45) hT hI1083) (kF (fun v1098 v1098p => ?_))
            refine s_if_eq (t := 144) kx_197_136 (by decide) (fun hc1099 => ?_) (fun hc1099 => ?_)
            · replace v1098p := v1098p.resolve_left (by omega)
              refine s_aload_n kx_197_144 rfl ?_
              refine s_bipush (v := 42) kx_197_145 (by decide) ?_
              refine s_callV2 (k := 63) (s1 := 2) (s2 := 1) (as := [(0, 42)]) (rest := [rf 63]) kx_197_147 kp_197_283 (Or.inl rfl) rfl (tk_63 hT) ki_181 kcl_181 rfl rfl (by decide) (m_181 (d := d + 1) (c := 42) hT hI1083) (kF (fun v1100 v1100p => ?_))
              refine s_if_eq (t := 158) kx_197_150 (by decide) (fun hc1101 => ?_) (fun hc1101 => ?_)
              · replace v1100p := v1100p.resolve_left (by omega)
                refine s_aload_n kx_197_158 rfl ?_
                refine s_bipush (v := 47) kx_197_159 (by decide) ?_
                refine s_callV2 (k := 63) (s1 := 2) (s2 := 1) (as := [(0, 47)]) (rest := [rf 63]) kx_197_161 kp_197_283 (Or.inl rfl) rfl (tk_63 hT) ki_181 kcl_181 rfl rfl (by decide) (m_181 (d := d + 1) (c := 47) hT hI1083) (kF (fun v1102 v1102p => ?_))
                refine s_if_eq (t := 172) kx_197_164 (by decide) (fun hc1103 => ?_) (fun hc1103 => ?_)
                · replace v1102p := v1102p.resolve_left (by omega)
                  refine s_bipush (v := 14) kx_197_172 (by decide) ?_
                  exact cP.wk (lS1 rfl lS0) (jn1106 14 (by omega) (by omega) (by omega))
                · replace v1102p := v1102p.resolve_right (by omega)
                  refine s_bipush (v := 13) kx_197_167 (by decide) ?_
                  refine s_goto (t := 174) kx_197_169 (by decide) ?_
                  exact cP.wk (lS1 rfl lS0) (jn1106 13 (by omega) (by omega) (by omega))
              · replace v1100p := v1100p.resolve_right (by omega)
                refine s_bipush (v := 12) kx_197_153 (by decide) ?_
                refine s_goto (t := 174) kx_197_155 (by decide) ?_
                exact cP.wk (lS1 rfl lS0) (jn1106 12 (by omega) (by omega) (by omega))
            · replace v1098p := v1098p.resolve_right (by omega)
              refine s_bipush (v := 11) kx_197_139 (by decide) ?_
              refine s_goto (t := 174) kx_197_141 (by decide) ?_
              exact cP.wk (lS1 rfl lS0) (jn1106 11 (by omega) (by omega) (by omega))
          · have hJ1104 : Fr fS_197_j122 M1083 M1083 := Fr.refl
            replace v1095p := v1095p.resolve_right (by omega)
            refine s_bipush (v := 10) kx_197_125 (by decide) ?_
            refine s_goto (t := 174) kx_197_127 (by decide) ?_
            exact cP.wk (lS1 rfl lS0) (jn1106 10 (by omega) (by omega) (by omega))
        refine s_if_ne (t := 106) kx_197_94 (by decide) (fun hc1072 => ?_) (fun hc1072 => ?_)
        · have hJ1073 : Fr fS_197_j94 M2 M2 := Fr.refl
          replace v1071p := v1071p.resolve_right (by omega)
          refine s_iconst (v := 5) kx_197_106 (by decide) ?_
          refine s_goto (t := 112) kx_197_107 (by decide) ?_
          exact cP.wk (lS1 rfl lS0) (jn1078 5 (by omega) (by omega) (by omega))
        · have hJ1074 : Fr fS_197_j94 M2 M2 := Fr.refl
          replace v1071p := v1071p.resolve_left (by omega)
          refine s_aload_n kx_197_97 rfl ?_
          refine s_bipush (v := 45) kx_197_98 (by decide) ?_
          refine s_callV2 (k := 63) (s1 := 2) (s2 := 1) (as := [(0, 45)]) (rest := [rf 63]) kx_197_100 kp_197_283 (Or.inl rfl) rfl (tk_63 hT) ki_181 kcl_181 rfl rfl (by decide) (m_181 (d := d + 1) (c := 45) hT hI2) (kF (fun v1075 v1075p => ?_))
          refine s_if_eq (t := 110) kx_197_103 (by decide) (fun hc1076 => ?_) (fun hc1076 => ?_)
          · replace v1075p := v1075p.resolve_left (by omega)
            refine s_bipush (v := 6) kx_197_110 (by decide) ?_
            exact cP.wk (lS1 rfl lS0) (jn1078 6 (by omega) (by omega) (by omega))
          · replace v1075p := v1075p.resolve_right (by omega)
            refine s_iconst (v := 5) kx_197_106 (by decide) ?_
            refine s_goto (t := 112) kx_197_107 (by decide) ?_
            exact cP.wk (lS1 rfl lS0) (jn1078 5 (by omega) (by omega) (by omega))
      · replace v1069p := v1069p.resolve_left (by omega)
        refine s_aload_n kx_197_51 rfl ?_
        refine s_bipush (v := 45) kx_197_52 (by decide) ?_
        refine s_callV2 (k := 63) (s1 := 2) (s2 := 0) (as := [(0, 45)]) (rest := []) kx_197_54 kp_197_283 (Or.inl rfl) rfl (tk_63 hT) ki_181 kcl_181 rfl rfl (by decide) (m_181 (d := d + 1) (c := 45) hT hI2) (kF (fun v1139 v1139p => ?_))
        refine s_if_ne (t := 87) kx_197_57 (by decide) (fun hc1140 => ?_) (fun hc1140 => ?_)
        · replace v1139p := v1139p.resolve_right (by omega)
          refine s_aload_n kx_197_87 rfl ?_
          refine s_aload_n kx_197_88 rfl ?_
          refine s_bipush (v := 43) kx_197_89 (by decide) ?_
          refine s_callV2 (k := 63) (s1 := 2) (s2 := 1) (as := [(0, 43)]) (rest := [rf 63]) kx_197_91 kp_197_283 (Or.inl rfl) rfl (tk_63 hT) ki_181 kcl_181 rfl rfl (by decide) (m_181 (d := d + 1) (c := 43) hT hI2) (kF (fun v1141 v1141p => ?_))
          have jn1148 : ∀ (y1147 : Int), (5 ≤ y1147) → (y1147 ≤ 6) → ((y1147 = 5 ∧ (isS M2 43 = 1 ∨ isS M2 45 = 1)) ∨ (y1147 = 6 ∧ isS M2 43 = 0 ∧ isS M2 45 = 0)) → cP k_P xs Ln (d + 2) 197 112 [(0, rf 63)] [(0, y1147), rf 63] (T, M2) (qW T M fS_197_m 0 (fun v M1 => 0 ≤ v ∧ v ≤ 1 ∧ (LXp M1 ∧ M 63 4 ≤ M1 63 4 ∧ M 63 9 ≤ M1 63 9 ∧ (GOd M M1 c a v ∧ KP M M1)))) := by
            intro y1147 a1149 a1150 a1151
            refine s_callV2 (k := 63) (s1 := 2) (s2 := 0) (as := [(0, y1147)]) (rest := []) kx_197_112 kp_197_370 (Or.inl rfl) rfl (tk_63 hT) ki_191 kcl_191 rfl rfl (by decide) (m_191 (d := d) (least := y1147) hT hI2 (PI.fr hP fr2 rfl) (by omega) (by omega) (by omega)) (kV (fun M1153 hI1153 fr1153 v1152p => ?_))
            have hFm1153 := hFm2.call fr1153 rfl
            have tr1154 := (fr1153 63 3 rfl)
            have tr1155 := (fr1153 63 4 rfl)
            have tr1156 := (fr1153 63 5 rfl)
            have tr1157 := (fr1153 63 9 rfl)
            have tr1158 := (fr1153 63 42 rfl)
            have tr1159 := rg_63_9 hI1153
            have hd1160 := PI.deep v1152p.1
            have hs1161 := PI.small v1152p.1 (rg_63_43 hI1153).2 (by decide)
            have hs1161a := hs1161.1
            have hs1161b := hs1161.2.1
            have hs1161c := rg_63_45 hI1153
            have hK1162 := KP.trans (KP.fr (KP.refl (M := M)) fr2 (fun _ => rfl)) (fr2 63 36 rfl) v1152p.2
            have hi1163 := isS_fr (c := 43) fr1153 rfl rfl
            have hi1164 := isS_fr (c := 45) fr1153 rfl rfl
            refine s_aload_n kx_197_115 rfl ?_
            refine s_aload_n kx_197_116 rfl ?_
            refine s_bipush (v := 43) kx_197_117 (by decide) ?_
            refine s_callV2 (k := 63) (s1 := 2) (s2 := 1) (as := [(0, 43)]) (rest := [rf 63]) kx_197_119 kp_197_283 (Or.inl rfl) rfl (tk_63 hT) ki_181 kcl_181 rfl rfl (by decide) (m_181 (d := d + 1) (c := 43) hT hI1153) (kF (fun v1165 v1165p => ?_))
            have jn1176 : ∀ (y1175 : Int), (10 ≤ y1175) → (y1175 ≤ 14) → ((y1175 ≤ 11 ∧ (isS M1153 43 = 1 ∨ isS M1153 45 = 1)) ∨ (12 ≤ y1175 ∧ isS M1153 43 = 0 ∧ isS M1153 45 = 0)) → cP k_P xs Ln (d + 2) 197 174 [(0, rf 63)] [(0, y1175), rf 63] (T, M1153) (qW T M fS_197_m 0 (fun v M1 => 0 ≤ v ∧ v ≤ 1 ∧ (LXp M1 ∧ M 63 4 ≤ M1 63 4 ∧ M 63 9 ≤ M1 63 9 ∧ (GOd M M1 c a v ∧ KP M M1)))) := by
              intro y1175 a1177 a1178 a1179
              refine s_callV2 (k := 63) (s1 := 2) (s2 := 0) (as := [(0, y1175)]) (rest := []) kx_197_174 kp_197_364 (Or.inl rfl) rfl (tk_63 hT) ki_192 kcl_192 rfl rfl (by decide) (m_192 (d := d + 1) (op := y1175) hT hI1153 (by omega) (by omega)) (kV (fun M1181 hI1181 fr1181 v1180p => ?_))
              have hFm1181 := hFm1153.call fr1181 rfl
              have tr1182 := (fr1181 63 3 rfl)
              have tr1183 := (fr1181 63 4 rfl)
              have tr1184 := (fr1181 63 5 rfl)
              have tr1185 := (fr1181 63 9 rfl)
              have tr1186 := (fr1181 63 35 rfl)
              have tr1187 := (fr1181 63 42 rfl)
              have tr1188 := (fr1181 63 43 rfl)
              have tr1189 := rg_63_9 hI1181
              have hP1190 := PI.holdA v1152p.1 (B0.fr (B0.fr hB fr2 rfl (fun _ => rfl)) fr1153 rfl (fun _ => rfl)) (by omega) fr1181 v1180p.1 v1180p.2.1 v1180p.2.2
              refine s_aload_n kx_197_177 rfl ?_
              refine s_callV2 (k := 63) (s1 := 1) (s2 := 0) (as := []) (rest := []) kx_197_178 kp_197_286 (Or.inl rfl) rfl (tk_63 hT) ki_180 kcl_180 rfl rfl (by decide) (m_180 (d := d) hT hI1181) (kV (fun M1192 hI1192 fr1192 v1191p => ?_))
              have hFm1192 := hFm1181.call fr1192 rfl
              have tr1193 := (fr1192 63 9 rfl)
              have tr1194 := (fr1192 63 35 rfl)
              have tr1195 := (fr1192 63 42 rfl)
              have tr1196 := (fr1192 63 43 rfl)
              have tr1197 := (fr1192 63 45 rfl)
              have tr1198 := rg_63_9 hI1192
              refine s_aload_n kx_197_181 rfl ?_
              refine s_iconst (v := 0) kx_197_182 (by decide) ?_
              refine r_put (k := 63) (f := 46) kx_197_183 kp_197_152 (tk_63 hT) kf_12_46 rfl (by decide) (by decide) hI1192 (ru_63_46 (by omega) (by omega)) (fun M1199 hI1199 u1199 => ?_)
              have hFm1199 := hFm1192.up u1199 rfl
              have tr1200 := (u1199.2 63 3 (by omega))
              have tr1201 := (u1199.2 63 4 (by omega))
              have tr1202 := (u1199.2 63 5 (by omega))
              have tr1203 := (u1199.2 63 9 (by omega))
              have tr1204 := (u1199.2 63 35 (by omega))
              have tr1205 := (u1199.2 63 42 (by omega))
              have tr1206 := (u1199.2 63 43 (by omega))
              have tr1207 := (u1199.2 63 45 (by omega))
              refine s_iconst (v := 1) kx_197_186 (by decide) ?_
              have hk1208 : M1199 63 9 = v11 := ((u1199.2 63 9 (by omega)).trans ((fr1192 63 9 rfl).trans ((fr1181 63 9 rfl).trans ((fr1153 63 9 rfl).trans v11e))))
              exact s_iret kx_197_187 (Or.inr ⟨kq_197, by omega⟩) ⟨_, _, rfl, rfl, hI1199, hFm1199, ⟨by omega, by omega, (LXp.up (show LXp M1192 from v1191p.2) u1199 (by decide)), (by omega), (by omega), ⟨(Or.inr (Or.inr ⟨rfl, by omega, Or.inl ⟨u1199.1, PI.to7 (PI.fr (PI.fr hP1190 fr1192 rfl) (Up.fr u1199) rfl) (by omega)⟩⟩)), (KP.up (KP.fr (KP.fr hK1162 fr1181 (fun _ => rfl)) fr1192 (fun _ => rfl)) u1199 (by decide))⟩⟩⟩
            refine s_if_eq (t := 130) kx_197_122 (by decide) (fun hc1166 => ?_) (fun hc1166 => ?_)
            · have hJ1167 : Fr fS_197_j122 M1153 M1153 := Fr.refl
              replace v1165p := v1165p.resolve_left (by omega)
              refine s_aload_n kx_197_130 rfl ?_
              refine s_bipush (v := 45) kx_197_131 (by decide) ?_
              refine s_callV2 (k := 63) (s1 := 2) (s2 := 1) (as := [(0, 45)]) (rest := [rf 63]) kx_197_133 kp_197_283 (Or.inl rfl) rfl (tk_63 hT) ki_181 kcl_181 rfl rfl (by decide) (m_181 (d := d + 1) (c := 45) hT hI1153) (kF (fun v1168 v1168p => ?_))
              refine s_if_eq (t := 144) kx_197_136 (by decide) (fun hc1169 => ?_) (fun hc1169 => ?_)
              · replace v1168p := v1168p.resolve_left (by omega)
                refine s_aload_n kx_197_144 rfl ?_
                refine s_bipush (v := 42) kx_197_145 (by decide) ?_
                refine s_callV2 (k := 63) (s1 := 2) (s2 := 1) (as := [(0, 42)]) (rest := [rf 63]) kx_197_147 kp_197_283 (Or.inl rfl) rfl (tk_63 hT) ki_181 kcl_181 rfl rfl (by decide) (m_181 (d := d + 1) (c := 42) hT hI1153) (kF (fun v1170 v1170p => ?_))
                refine s_if_eq (t := 158) kx_197_150 (by decide) (fun hc1171 => ?_) (fun hc1171 => ?_)
                · replace v1170p := v1170p.resolve_left (by omega)
                  refine s_aload_n kx_197_158 rfl ?_
                  refine s_bipush (v := 47) kx_197_159 (by decide) ?_
                  refine s_callV2 (k := 63) (s1 := 2) (s2 := 1) (as := [(0, 47)]) (rest := [rf 63]) kx_197_161 kp_197_283 (Or.inl rfl) rfl (tk_63 hT) ki_181 kcl_181 rfl rfl (by decide) (m_181 (d := d + 1) (c := 47) hT hI1153) (kF (fun v1172 v1172p => ?_))
                  refine s_if_eq (t := 172) kx_197_164 (by decide) (fun hc1173 => ?_) (fun hc1173 => ?_)
                  · replace v1172p := v1172p.resolve_left (by omega)
                    refine s_bipush (v := 14) kx_197_172 (by decide) ?_
                    exact cP.wk (lS1 rfl lS0) (jn1176 14 (by omega) (by omega) (by omega))
                  · replace v1172p := v1172p.resolve_right (by omega)
                    refine s_bipush (v := 13) kx_197_167 (by decide) ?_
                    refine s_goto (t := 174) kx_197_169 (by decide) ?_
                    exact cP.wk (lS1 rfl lS0) (jn1176 13 (by omega) (by omega) (by omega))
                · replace v1170p := v1170p.resolve_right (by omega)
                  refine s_bipush (v := 12) kx_197_153 (by decide) ?_
                  refine s_goto (t := 174) kx_197_155 (by decide) ?_
                  exact cP.wk (lS1 rfl lS0) (jn1176 12 (by omega) (by omega) (by omega))
              · replace v1168p := v1168p.resolve_right (by omega)
                refine s_bipush (v := 11) kx_197_139 (by decide) ?_
                refine s_goto (t := 174) kx_197_141 (by decide) ?_
                exact cP.wk (lS1 rfl lS0) (jn1176 11 (by omega) (by omega) (by omega))
            · have hJ1174 : Fr fS_197_j122 M1153 M1153 := Fr.refl
              replace v1165p := v1165p.resolve_right (by omega)
              refine s_bipush (v := 10) kx_197_125 (by decide) ?_
              refine s_goto (t := 174) kx_197_127 (by decide) ?_
              exact cP.wk (lS1 rfl lS0) (jn1176 10 (by omega) (by omega) (by omega))
          refine s_if_ne (t := 106) kx_197_94 (by decide) (fun hc1142 => ?_) (fun hc1142 => ?_)
          · have hJ1143 : Fr fS_197_j94 M2 M2 := Fr.refl
            replace v1141p := v1141p.resolve_right (by omega)
            refine s_iconst (v := 5) kx_197_106 (by decide) ?_
            refine s_goto (t := 112) kx_197_107 (by decide) ?_
            exact cP.wk (lS1 rfl lS0) (jn1148 5 (by omega) (by omega) (by omega))
          · have hJ1144 : Fr fS_197_j94 M2 M2 := Fr.refl
            replace v1141p := v1141p.resolve_left (by omega)
            refine s_aload_n kx_197_97 rfl ?_
            refine s_bipush (v := 45) kx_197_98 (by decide) ?_
            refine s_callV2 (k := 63) (s1 := 2) (s2 := 1) (as := [(0, 45)]) (rest := [rf 63]) kx_197_100 kp_197_283 (Or.inl rfl) rfl (tk_63 hT) ki_181 kcl_181 rfl rfl (by decide) (m_181 (d := d + 1) (c := 45) hT hI2) (kF (fun v1145 v1145p => ?_))
            refine s_if_eq (t := 110) kx_197_103 (by decide) (fun hc1146 => ?_) (fun hc1146 => ?_)
            · replace v1145p := v1145p.resolve_left (by omega)
              refine s_bipush (v := 6) kx_197_110 (by decide) ?_
              exact cP.wk (lS1 rfl lS0) (jn1148 6 (by omega) (by omega) (by omega))
            · replace v1145p := v1145p.resolve_right (by omega)
              refine s_iconst (v := 5) kx_197_106 (by decide) ?_
              refine s_goto (t := 112) kx_197_107 (by decide) ?_
              exact cP.wk (lS1 rfl lS0) (jn1148 5 (by omega) (by omega) (by omega))
        · replace v1139p := v1139p.resolve_left (by omega)
          refine s_aload_n kx_197_60 rfl ?_
          refine s_bipush (v := 42) kx_197_61 (by decide) ?_
          refine s_callV2 (k := 63) (s1 := 2) (s2 := 0) (as := [(0, 42)]) (rest := []) kx_197_63 kp_197_283 (Or.inl rfl) rfl (tk_63 hT) ki_181 kcl_181 rfl rfl (by decide) (m_181 (d := d + 1) (c := 42) hT hI2) (kF (fun v1209 v1209p => ?_))
          refine s_if_ne (t := 87) kx_197_66 (by decide) (fun hc1210 => ?_) (fun hc1210 => ?_)
          · replace v1209p := v1209p.resolve_right (by omega)
            refine s_aload_n kx_197_87 rfl ?_
            refine s_aload_n kx_197_88 rfl ?_
            refine s_bipush (v := 43) kx_197_89 (by decide) ?_
            refine s_callV2 (k := 63) (s1 := 2) (s2 := 1) (as := [(0, 43)]) (rest := [rf 63]) kx_197_91 kp_197_283 (Or.inl rfl) rfl (tk_63 hT) ki_181 kcl_181 rfl rfl (by decide) (m_181 (d := d + 1) (c := 43) hT hI2) (kF (fun v1211 v1211p => ?_))
            have jn1218 : ∀ (y1217 : Int), (5 ≤ y1217) → (y1217 ≤ 6) → ((y1217 = 5 ∧ (isS M2 43 = 1 ∨ isS M2 45 = 1)) ∨ (y1217 = 6 ∧ isS M2 43 = 0 ∧ isS M2 45 = 0)) → cP k_P xs Ln (d + 2) 197 112 [(0, rf 63)] [(0, y1217), rf 63] (T, M2) (qW T M fS_197_m 0 (fun v M1 => 0 ≤ v ∧ v ≤ 1 ∧ (LXp M1 ∧ M 63 4 ≤ M1 63 4 ∧ M 63 9 ≤ M1 63 9 ∧ (GOd M M1 c a v ∧ KP M M1)))) := by
              intro y1217 a1219 a1220 a1221
              refine s_callV2 (k := 63) (s1 := 2) (s2 := 0) (as := [(0, y1217)]) (rest := []) kx_197_112 kp_197_370 (Or.inl rfl) rfl (tk_63 hT) ki_191 kcl_191 rfl rfl (by decide) (m_191 (d := d) (least := y1217) hT hI2 (PI.fr hP fr2 rfl) (by omega) (by omega) (by omega)) (kV (fun M1223 hI1223 fr1223 v1222p => ?_))
              have hFm1223 := hFm2.call fr1223 rfl
              have tr1224 := (fr1223 63 3 rfl)
              have tr1225 := (fr1223 63 4 rfl)
              have tr1226 := (fr1223 63 5 rfl)
              have tr1227 := (fr1223 63 9 rfl)
              have tr1228 := (fr1223 63 42 rfl)
              have tr1229 := rg_63_9 hI1223
              have hd1230 := PI.deep v1222p.1
              have hs1231 := PI.small v1222p.1 (rg_63_43 hI1223).2 (by decide)
              have hs1231a := hs1231.1
              have hs1231b := hs1231.2.1
              have hs1231c := rg_63_45 hI1223
              have hK1232 := KP.trans (KP.fr (KP.refl (M := M)) fr2 (fun _ => rfl)) (fr2 63 36 rfl) v1222p.2
              have hi1233 := isS_fr (c := 43) fr1223 rfl rfl
              have hi1234 := isS_fr (c := 45) fr1223 rfl rfl
              refine s_aload_n kx_197_115 rfl ?_
              refine s_aload_n kx_197_116 rfl ?_
              refine s_bipush (v := 43) kx_197_117 (by decide) ?_
              refine s_callV2 (k := 63) (s1 := 2) (s2 := 1) (as := [(0, 43)]) (rest := [rf 63]) kx_197_119 kp_197_283 (Or.inl rfl) rfl (tk_63 hT) ki_181 kcl_181 rfl rfl (by decide) (m_181 (d := d + 1) (c := 43) hT hI1223) (kF (fun v1235 v1235p => ?_))
              have jn1246 : ∀ (y1245 : Int), (10 ≤ y1245) → (y1245 ≤ 14) → ((y1245 ≤ 11 ∧ (isS M1223 43 = 1 ∨ isS M1223 45 = 1)) ∨ (12 ≤ y1245 ∧ isS M1223 43 = 0 ∧ isS M1223 45 = 0)) → cP k_P xs Ln (d + 2) 197 174 [(0, rf 63)] [(0, y1245), rf 63] (T, M1223) (qW T M fS_197_m 0 (fun v M1 => 0 ≤ v ∧ v ≤ 1 ∧ (LXp M1 ∧ M 63 4 ≤ M1 63 4 ∧ M 63 9 ≤ M1 63 9 ∧ (GOd M M1 c a v ∧ KP M M1)))) := by
                intro y1245 a1247 a1248 a1249
                refine s_callV2 (k := 63) (s1 := 2) (s2 := 0) (as := [(0, y1245)]) (rest := []) kx_197_174 kp_197_364 (Or.inl rfl) rfl (tk_63 hT) ki_192 kcl_192 rfl rfl (by decide) (m_192 (d := d + 1) (op := y1245) hT hI1223 (by omega) (by omega)) (kV (fun M1251 hI1251 fr1251 v1250p => ?_))
                have hFm1251 := hFm1223.call fr1251 rfl
                have tr1252 := (fr1251 63 3 rfl)
                have tr1253 := (fr1251 63 4 rfl)
                have tr1254 := (fr1251 63 5 rfl)
                have tr1255 := (fr1251 63 9 rfl)
                have tr1256 := (fr1251 63 35 rfl)
                have tr1257 := (fr1251 63 42 rfl)
                have tr1258 := (fr1251 63 43 rfl)
                have tr1259 := rg_63_9 hI1251
                have hP1260 := PI.holdA v1222p.1 (B0.fr (B0.fr hB fr2 rfl (fun _ => rfl)) fr1223 rfl (fun _ => rfl)) (by omega) fr1251 v1250p.1 v1250p.2.1 v1250p.2.2
                refine s_aload_n kx_197_177 rfl ?_
                refine s_callV2 (k := 63) (s1 := 1) (s2 := 0) (as := []) (rest := []) kx_197_178 kp_197_286 (Or.inl rfl) rfl (tk_63 hT) ki_180 kcl_180 rfl rfl (by decide) (m_180 (d := d) hT hI1251) (kV (fun M1262 hI1262 fr1262 v1261p => ?_))
                have hFm1262 := hFm1251.call fr1262 rfl
                have tr1263 := (fr1262 63 9 rfl)
                have tr1264 := (fr1262 63 35 rfl)
                have tr1265 := (fr1262 63 42 rfl)
                have tr1266 := (fr1262 63 43 rfl)
                have tr1267 := (fr1262 63 45 rfl)
                have tr1268 := rg_63_9 hI1262
                refine s_aload_n kx_197_181 rfl ?_
                refine s_iconst (v := 0) kx_197_182 (by decide) ?_
                refine r_put (k := 63) (f := 46) kx_197_183 kp_197_152 (tk_63 hT) kf_12_46 rfl (by decide) (by decide) hI1262 (ru_63_46 (by omega) (by omega)) (fun M1269 hI1269 u1269 => ?_)
                have hFm1269 := hFm1262.up u1269 rfl
                have tr1270 := (u1269.2 63 3 (by omega))
                have tr1271 := (u1269.2 63 4 (by omega))
                have tr1272 := (u1269.2 63 5 (by omega))
                have tr1273 := (u1269.2 63 9 (by omega))
                have tr1274 := (u1269.2 63 35 (by omega))
                have tr1275 := (u1269.2 63 42 (by omega))
                have tr1276 := (u1269.2 63 43 (by omega))
                have tr1277 := (u1269.2 63 45 (by omega))
                refine s_iconst (v := 1) kx_197_186 (by decide) ?_
                have hk1278 : M1269 63 9 = v11 := ((u1269.2 63 9 (by omega)).trans ((fr1262 63 9 rfl).trans ((fr1251 63 9 rfl).trans ((fr1223 63 9 rfl).trans v11e))))
                exact s_iret kx_197_187 (Or.inr ⟨kq_197, by omega⟩) ⟨_, _, rfl, rfl, hI1269, hFm1269, ⟨by omega, by omega, (LXp.up (show LXp M1262 from v1261p.2) u1269 (by decide)), (by omega), (by omega), ⟨(Or.inr (Or.inr ⟨rfl, by omega, Or.inl ⟨u1269.1, PI.to7 (PI.fr (PI.fr hP1260 fr1262 rfl) (Up.fr u1269) rfl) (by omega)⟩⟩)), (KP.up (KP.fr (KP.fr hK1232 fr1251 (fun _ => rfl)) fr1262 (fun _ => rfl)) u1269 (by decide))⟩⟩⟩
              refine s_if_eq (t := 130) kx_197_122 (by decide) (fun hc1236 => ?_) (fun hc1236 => ?_)
              · have hJ1237 : Fr fS_197_j122 M1223 M1223 := Fr.refl
                replace v1235p := v1235p.resolve_left (by omega)
                refine s_aload_n kx_197_130 rfl ?_
                refine s_bipush (v := 45) kx_197_131 (by decide) ?_
                refine s_callV2 (k := 63) (s1 := 2) (s2 := 1) (as := [(0, 45)]) (rest := [rf 63]) kx_197_133 kp_197_283 (Or.inl rfl) rfl (tk_63 hT) ki_181 kcl_181 rfl rfl (by decide) (m_181 (d := d + 1) (c := 45) hT hI1223) (kF (fun v1238 v1238p => ?_))
                refine s_if_eq (t := 144) kx_197_136 (by decide) (fun hc1239 => ?_) (fun hc1239 => ?_)
                · replace v1238p := v1238p.resolve_left (by omega)
                  refine s_aload_n kx_197_144 rfl ?_
                  refine s_bipush (v := 42) kx_197_145 (by decide) ?_
                  refine s_callV2 (k := 63) (s1 := 2) (s2 := 1) (as := [(0, 42)]) (rest := [rf 63]) kx_197_147 kp_197_283 (Or.inl rfl) rfl (tk_63 hT) ki_181 kcl_181 rfl rfl (by decide) (m_181 (d := d + 1) (c := 42) hT hI1223) (kF (fun v1240 v1240p => ?_))
                  refine s_if_eq (t := 158) kx_197_150 (by decide) (fun hc1241 => ?_) (fun hc1241 => ?_)
                  · replace v1240p := v1240p.resolve_left (by omega)
                    refine s_aload_n kx_197_158 rfl ?_
                    refine s_bipush (v := 47) kx_197_159 (by decide) ?_
                    refine s_callV2 (k := 63) (s1 := 2) (s2 := 1) (as := [(0, 47)]) (rest := [rf 63]) kx_197_161 kp_197_283 (Or.inl rfl) rfl (tk_63 hT) ki_181 kcl_181 rfl rfl (by decide) (m_181 (d := d + 1) (c := 47) hT hI1223) (kF (fun v1242 v1242p => ?_))
                    refine s_if_eq (t := 172) kx_197_164 (by decide) (fun hc1243 => ?_) (fun hc1243 => ?_)
                    · replace v1242p := v1242p.resolve_left (by omega)
                      refine s_bipush (v := 14) kx_197_172 (by decide) ?_
                      exact cP.wk (lS1 rfl lS0) (jn1246 14 (by omega) (by omega) (by omega))
                    · replace v1242p := v1242p.resolve_right (by omega)
                      refine s_bipush (v := 13) kx_197_167 (by decide) ?_
                      refine s_goto (t := 174) kx_197_169 (by decide) ?_
                      exact cP.wk (lS1 rfl lS0) (jn1246 13 (by omega) (by omega) (by omega))
                  · replace v1240p := v1240p.resolve_right (by omega)
                    refine s_bipush (v := 12) kx_197_153 (by decide) ?_
                    refine s_goto (t := 174) kx_197_155 (by decide) ?_
                    exact cP.wk (lS1 rfl lS0) (jn1246 12 (by omega) (by omega) (by omega))
                · replace v1238p := v1238p.resolve_right (by omega)
                  refine s_bipush (v := 11) kx_197_139 (by decide) ?_
                  refine s_goto (t := 174) kx_197_141 (by decide) ?_
                  exact cP.wk (lS1 rfl lS0) (jn1246 11 (by omega) (by omega) (by omega))
              · have hJ1244 : Fr fS_197_j122 M1223 M1223 := Fr.refl
                replace v1235p := v1235p.resolve_right (by omega)
                refine s_bipush (v := 10) kx_197_125 (by decide) ?_
                refine s_goto (t := 174) kx_197_127 (by decide) ?_
                exact cP.wk (lS1 rfl lS0) (jn1246 10 (by omega) (by omega) (by omega))
            refine s_if_ne (t := 106) kx_197_94 (by decide) (fun hc1212 => ?_) (fun hc1212 => ?_)
            · have hJ1213 : Fr fS_197_j94 M2 M2 := Fr.refl
              replace v1211p := v1211p.resolve_right (by omega)
              refine s_iconst (v := 5) kx_197_106 (by decide) ?_
              refine s_goto (t := 112) kx_197_107 (by decide) ?_
              exact cP.wk (lS1 rfl lS0) (jn1218 5 (by omega) (by omega) (by omega))
            · have hJ1214 : Fr fS_197_j94 M2 M2 := Fr.refl
              replace v1211p := v1211p.resolve_left (by omega)
              refine s_aload_n kx_197_97 rfl ?_
              refine s_bipush (v := 45) kx_197_98 (by decide) ?_
              refine s_callV2 (k := 63) (s1 := 2) (s2 := 1) (as := [(0, 45)]) (rest := [rf 63]) kx_197_100 kp_197_283 (Or.inl rfl) rfl (tk_63 hT) ki_181 kcl_181 rfl rfl (by decide) (m_181 (d := d + 1) (c := 45) hT hI2) (kF (fun v1215 v1215p => ?_))
              refine s_if_eq (t := 110) kx_197_103 (by decide) (fun hc1216 => ?_) (fun hc1216 => ?_)
              · replace v1215p := v1215p.resolve_left (by omega)
                refine s_bipush (v := 6) kx_197_110 (by decide) ?_
                exact cP.wk (lS1 rfl lS0) (jn1218 6 (by omega) (by omega) (by omega))
              · replace v1215p := v1215p.resolve_right (by omega)
                refine s_iconst (v := 5) kx_197_106 (by decide) ?_
                refine s_goto (t := 112) kx_197_107 (by decide) ?_
                exact cP.wk (lS1 rfl lS0) (jn1218 5 (by omega) (by omega) (by omega))
          · replace v1209p := v1209p.resolve_left (by omega)
            refine s_aload_n kx_197_69 rfl ?_
            refine s_bipush (v := 47) kx_197_70 (by decide) ?_
            refine s_callV2 (k := 63) (s1 := 2) (s2 := 0) (as := [(0, 47)]) (rest := []) kx_197_72 kp_197_283 (Or.inl rfl) rfl (tk_63 hT) ki_181 kcl_181 rfl rfl (by decide) (m_181 (d := d + 1) (c := 47) hT hI2) (kF (fun v1279 v1279p => ?_))
            refine s_if_ne (t := 87) kx_197_75 (by decide) (fun hc1280 => ?_) (fun hc1280 => ?_)
            · replace v1279p := v1279p.resolve_right (by omega)
              refine s_aload_n kx_197_87 rfl ?_
              refine s_aload_n kx_197_88 rfl ?_
              refine s_bipush (v := 43) kx_197_89 (by decide) ?_
              refine s_callV2 (k := 63) (s1 := 2) (s2 := 1) (as := [(0, 43)]) (rest := [rf 63]) kx_197_91 kp_197_283 (Or.inl rfl) rfl (tk_63 hT) ki_181 kcl_181 rfl rfl (by decide) (m_181 (d := d + 1) (c := 43) hT hI2) (kF (fun v1281 v1281p => ?_))
              have jn1288 : ∀ (y1287 : Int), (5 ≤ y1287) → (y1287 ≤ 6) → ((y1287 = 5 ∧ (isS M2 43 = 1 ∨ isS M2 45 = 1)) ∨ (y1287 = 6 ∧ isS M2 43 = 0 ∧ isS M2 45 = 0)) → cP k_P xs Ln (d + 2) 197 112 [(0, rf 63)] [(0, y1287), rf 63] (T, M2) (qW T M fS_197_m 0 (fun v M1 => 0 ≤ v ∧ v ≤ 1 ∧ (LXp M1 ∧ M 63 4 ≤ M1 63 4 ∧ M 63 9 ≤ M1 63 9 ∧ (GOd M M1 c a v ∧ KP M M1)))) := by
                intro y1287 a1289 a1290 a1291
                refine s_callV2 (k := 63) (s1 := 2) (s2 := 0) (as := [(0, y1287)]) (rest := []) kx_197_112 kp_197_370 (Or.inl rfl) rfl (tk_63 hT) ki_191 kcl_191 rfl rfl (by decide) (m_191 (d := d) (least := y1287) hT hI2 (PI.fr hP fr2 rfl) (by omega) (by omega) (by omega)) (kV (fun M1293 hI1293 fr1293 v1292p => ?_))
                have hFm1293 := hFm2.call fr1293 rfl
                have tr1294 := (fr1293 63 3 rfl)
                have tr1295 := (fr1293 63 4 rfl)
                have tr1296 := (fr1293 63 5 rfl)
                have tr1297 := (fr1293 63 9 rfl)
                have tr1298 := (fr1293 63 42 rfl)
                have tr1299 := rg_63_9 hI1293
                have hd1300 := PI.deep v1292p.1
                have hs1301 := PI.small v1292p.1 (rg_63_43 hI1293).2 (by decide)
                have hs1301a := hs1301.1
                have hs1301b := hs1301.2.1
                have hs1301c := rg_63_45 hI1293
                have hK1302 := KP.trans (KP.fr (KP.refl (M := M)) fr2 (fun _ => rfl)) (fr2 63 36 rfl) v1292p.2
                have hi1303 := isS_fr (c := 43) fr1293 rfl rfl
                have hi1304 := isS_fr (c := 45) fr1293 rfl rfl
                refine s_aload_n kx_197_115 rfl ?_
                refine s_aload_n kx_197_116 rfl ?_
                refine s_bipush (v := 43) kx_197_117 (by decide) ?_
                refine s_callV2 (k := 63) (s1 := 2) (s2 := 1) (as := [(0, 43)]) (rest := [rf 63]) kx_197_119 kp_197_283 (Or.inl rfl) rfl (tk_63 hT) ki_181 kcl_181 rfl rfl (by decide) (m_181 (d := d + 1) (c := 43) hT hI1293) (kF (fun v1305 v1305p => ?_))
                have jn1316 : ∀ (y1315 : Int), (10 ≤ y1315) → (y1315 ≤ 14) → ((y1315 ≤ 11 ∧ (isS M1293 43 = 1 ∨ isS M1293 45 = 1)) ∨ (12 ≤ y1315 ∧ isS M1293 43 = 0 ∧ isS M1293 45 = 0)) → cP k_P xs Ln (d + 2) 197 174 [(0, rf 63)] [(0, y1315), rf 63] (T, M1293) (qW T M fS_197_m 0 (fun v M1 => 0 ≤ v ∧ v ≤ 1 ∧ (LXp M1 ∧ M 63 4 ≤ M1 63 4 ∧ M 63 9 ≤ M1 63 9 ∧ (GOd M M1 c a v ∧ KP M M1)))) := by
                  intro y1315 a1317 a1318 a1319
                  refine s_callV2 (k := 63) (s1 := 2) (s2 := 0) (as := [(0, y1315)]) (rest := []) kx_197_174 kp_197_364 (Or.inl rfl) rfl (tk_63 hT) ki_192 kcl_192 rfl rfl (by decide) (m_192 (d := d + 1) (op := y1315) hT hI1293 (by omega) (by omega)) (kV (fun M1321 hI1321 fr1321 v1320p => ?_))
                  have hFm1321 := hFm1293.call fr1321 rfl
                  have tr1322 := (fr1321 63 3 rfl)
                  have tr1323 := (fr1321 63 4 rfl)
                  have tr1324 := (fr1321 63 5 rfl)
                  have tr1325 := (fr1321 63 9 rfl)
                  have tr1326 := (fr1321 63 35 rfl)
                  have tr1327 := (fr1321 63 42 rfl)
                  have tr1328 := (fr1321 63 43 rfl)
                  have tr1329 := rg_63_9 hI1321
                  have hP1330 := PI.holdA v1292p.1 (B0.fr (B0.fr hB fr2 rfl (fun _ => rfl)) fr1293 rfl (fun _ => rfl)) (by omega) fr1321 v1320p.1 v1320p.2.1 v1320p.2.2
                  refine s_aload_n kx_197_177 rfl ?_
                  refine s_callV2 (k := 63) (s1 := 1) (s2 := 0) (as := []) (rest := []) kx_197_178 kp_197_286 (Or.inl rfl) rfl (tk_63 hT) ki_180 kcl_180 rfl rfl (by decide) (m_180 (d := d) hT hI1321) (kV (fun M1332 hI1332 fr1332 v1331p => ?_))
                  have hFm1332 := hFm1321.call fr1332 rfl
                  have tr1333 := (fr1332 63 9 rfl)
                  have tr1334 := (fr1332 63 35 rfl)
                  have tr1335 := (fr1332 63 42 rfl)
                  have tr1336 := (fr1332 63 43 rfl)
                  have tr1337 := (fr1332 63 45 rfl)
                  have tr1338 := rg_63_9 hI1332
                  refine s_aload_n kx_197_181 rfl ?_
                  refine s_iconst (v := 0) kx_197_182 (by decide) ?_
                  refine r_put (k := 63) (f := 46) kx_197_183 kp_197_152 (tk_63 hT) kf_12_46 rfl (by decide) (by decide) hI1332 (ru_63_46 (by omega) (by omega)) (fun M1339 hI1339 u1339 => ?_)
                  have hFm1339 := hFm1332.up u1339 rfl
                  have tr1340 := (u1339.2 63 3 (by omega))
                  have tr1341 := (u1339.2 63 4 (by omega))
                  have tr1342 := (u1339.2 63 5 (by omega))
                  have tr1343 := (u1339.2 63 9 (by omega))
                  have tr1344 := (u1339.2 63 35 (by omega))
                  have tr1345 := (u1339.2 63 42 (by omega))
                  have tr1346 := (u1339.2 63 43 (by omega))
                  have tr1347 := (u1339.2 63 45 (by omega))
                  refine s_iconst (v := 1) kx_197_186 (by decide) ?_
                  have hk1348 : M1339 63 9 = v11 := ((u1339.2 63 9 (by omega)).trans ((fr1332 63 9 rfl).trans ((fr1321 63 9 rfl).trans ((fr1293 63 9 rfl).trans v11e))))
                  exact s_iret kx_197_187 (Or.inr ⟨kq_197, by omega⟩) ⟨_, _, rfl, rfl, hI1339, hFm1339, ⟨by omega, by omega, (LXp.up (show LXp M1332 from v1331p.2) u1339 (by decide)), (by omega), (by omega), ⟨(Or.inr (Or.inr ⟨rfl, by omega, Or.inl ⟨u1339.1, PI.to7 (PI.fr (PI.fr hP1330 fr1332 rfl) (Up.fr u1339) rfl) (by omega)⟩⟩)), (KP.up (KP.fr (KP.fr hK1302 fr1321 (fun _ => rfl)) fr1332 (fun _ => rfl)) u1339 (by decide))⟩⟩⟩
                refine s_if_eq (t := 130) kx_197_122 (by decide) (fun hc1306 => ?_) (fun hc1306 => ?_)
                · have hJ1307 : Fr fS_197_j122 M1293 M1293 := Fr.refl
                  replace v1305p := v1305p.resolve_left (by omega)
                  refine s_aload_n kx_197_130 rfl ?_
                  refine s_bipush (v := 45) kx_197_131 (by decide) ?_
                  refine s_callV2 (k := 63) (s1 := 2) (s2 := 1) (as := [(0, 45)]) (rest := [rf 63]) kx_197_133 kp_197_283 (Or.inl rfl) rfl (tk_63 hT) ki_181 kcl_181 rfl rfl (by decide) (m_181 (d := d + 1) (c := 45) hT hI1293) (kF (fun v1308 v1308p => ?_))
                  refine s_if_eq (t := 144) kx_197_136 (by decide) (fun hc1309 => ?_) (fun hc1309 => ?_)
                  · replace v1308p := v1308p.resolve_left (by omega)
                    refine s_aload_n kx_197_144 rfl ?_
                    refine s_bipush (v := 42) kx_197_145 (by decide) ?_
                    refine s_callV2 (k := 63) (s1 := 2) (s2 := 1) (as := [(0, 42)]) (rest := [rf 63]) kx_197_147 kp_197_283 (Or.inl rfl) rfl (tk_63 hT) ki_181 kcl_181 rfl rfl (by decide) (m_181 (d := d + 1) (c := 42) hT hI1293) (kF (fun v1310 v1310p => ?_))
                    refine s_if_eq (t := 158) kx_197_150 (by decide) (fun hc1311 => ?_) (fun hc1311 => ?_)
                    · replace v1310p := v1310p.resolve_left (by omega)
                      refine s_aload_n kx_197_158 rfl ?_
                      refine s_bipush (v := 47) kx_197_159 (by decide) ?_
                      refine s_callV2 (k := 63) (s1 := 2) (s2 := 1) (as := [(0, 47)]) (rest := [rf 63]) kx_197_161 kp_197_283 (Or.inl rfl) rfl (tk_63 hT) ki_181 kcl_181 rfl rfl (by decide) (m_181 (d := d + 1) (c := 47) hT hI1293) (kF (fun v1312 v1312p => ?_))
                      refine s_if_eq (t := 172) kx_197_164 (by decide) (fun hc1313 => ?_) (fun hc1313 => ?_)
                      · replace v1312p := v1312p.resolve_left (by omega)
                        refine s_bipush (v := 14) kx_197_172 (by decide) ?_
                        exact cP.wk (lS1 rfl lS0) (jn1316 14 (by omega) (by omega) (by omega))
                      · replace v1312p := v1312p.resolve_right (by omega)
                        refine s_bipush (v := 13) kx_197_167 (by decide) ?_
                        refine s_goto (t := 174) kx_197_169 (by decide) ?_
                        exact cP.wk (lS1 rfl lS0) (jn1316 13 (by omega) (by omega) (by omega))
                    · replace v1310p := v1310p.resolve_right (by omega)
                      refine s_bipush (v := 12) kx_197_153 (by decide) ?_
                      refine s_goto (t := 174) kx_197_155 (by decide) ?_
                      exact cP.wk (lS1 rfl lS0) (jn1316 12 (by omega) (by omega) (by omega))
                  · replace v1308p := v1308p.resolve_right (by omega)
                    refine s_bipush (v := 11) kx_197_139 (by decide) ?_
                    refine s_goto (t := 174) kx_197_141 (by decide) ?_
                    exact cP.wk (lS1 rfl lS0) (jn1316 11 (by omega) (by omega) (by omega))
                · have hJ1314 : Fr fS_197_j122 M1293 M1293 := Fr.refl
                  replace v1305p := v1305p.resolve_right (by omega)
                  refine s_bipush (v := 10) kx_197_125 (by decide) ?_
                  refine s_goto (t := 174) kx_197_127 (by decide) ?_
                  exact cP.wk (lS1 rfl lS0) (jn1316 10 (by omega) (by omega) (by omega))
              refine s_if_ne (t := 106) kx_197_94 (by decide) (fun hc1282 => ?_) (fun hc1282 => ?_)
              · have hJ1283 : Fr fS_197_j94 M2 M2 := Fr.refl
                replace v1281p := v1281p.resolve_right (by omega)
                refine s_iconst (v := 5) kx_197_106 (by decide) ?_
                refine s_goto (t := 112) kx_197_107 (by decide) ?_
                exact cP.wk (lS1 rfl lS0) (jn1288 5 (by omega) (by omega) (by omega))
              · have hJ1284 : Fr fS_197_j94 M2 M2 := Fr.refl
                replace v1281p := v1281p.resolve_left (by omega)
                refine s_aload_n kx_197_97 rfl ?_
                refine s_bipush (v := 45) kx_197_98 (by decide) ?_
                refine s_callV2 (k := 63) (s1 := 2) (s2 := 1) (as := [(0, 45)]) (rest := [rf 63]) kx_197_100 kp_197_283 (Or.inl rfl) rfl (tk_63 hT) ki_181 kcl_181 rfl rfl (by decide) (m_181 (d := d + 1) (c := 45) hT hI2) (kF (fun v1285 v1285p => ?_))
                refine s_if_eq (t := 110) kx_197_103 (by decide) (fun hc1286 => ?_) (fun hc1286 => ?_)
                · replace v1285p := v1285p.resolve_left (by omega)
                  refine s_bipush (v := 6) kx_197_110 (by decide) ?_
                  exact cP.wk (lS1 rfl lS0) (jn1288 6 (by omega) (by omega) (by omega))
                · replace v1285p := v1285p.resolve_right (by omega)
                  refine s_iconst (v := 5) kx_197_106 (by decide) ?_
                  refine s_goto (t := 112) kx_197_107 (by decide) ?_
                  exact cP.wk (lS1 rfl lS0) (jn1288 5 (by omega) (by omega) (by omega))
            · replace v1279p := v1279p.resolve_left (by omega)
              refine s_aload_n kx_197_78 rfl ?_
              refine s_bipush (v := 37) kx_197_79 (by decide) ?_
              refine s_callV2 (k := 63) (s1 := 2) (s2 := 0) (as := [(0, 37)]) (rest := []) kx_197_81 kp_197_283 (Or.inl rfl) rfl (tk_63 hT) ki_181 kcl_181 rfl rfl (by decide) (m_181 (d := d + 1) (c := 37) hT hI2) (kF (fun v1349 v1349p => ?_))
              refine s_if_eq (t := 188) kx_197_84 (by decide) (fun hc1350 => ?_) (fun hc1350 => ?_)
              · replace v1349p := v1349p.resolve_left (by omega)
                refine s_iload_n kx_197_188 rfl ?_
                refine s_if_eq (t := 285) kx_197_189 (by decide) (fun hc1351 => ?_) (fun hc1351 => ?_)
                · replace v15p := v15p.resolve_left (by omega)
                  refine s_iload_n kx_197_285 rfl ?_
                  refine s_if_eq (t := 400) kx_197_286 (by decide) (fun hc1352 => ?_) (fun hc1352 => absurd hc1352 (by omega))
                  refine s_iload_n kx_197_400 rfl ?_
                  refine s_if_eq (t := 422) kx_197_401 (by decide) (fun hc1353 => ?_) (fun hc1353 => absurd hc1353 (by omega))
                  refine s_iload_n kx_197_422 rfl ?_
                  refine s_iconst (v := 2) kx_197_423 (by decide) ?_
                  refine s_icmp_ge (t := 441) kx_197_424 (by decide) (fun hc1354 => ?_) (fun hc1354 => ?_)
                  · refine s_iload_n kx_197_441 rfl ?_
                    refine s_iconst (v := 3) kx_197_442 (by decide) ?_
                    refine s_icmp_eq (t := 452) kx_197_443 (by decide) (fun hc1355 => ?_) (fun hc1355 => ?_)
                    · refine s_aload_n kx_197_452 rfl ?_
                      refine s_bipush (v := 44) kx_197_453 (by decide) ?_
                      refine s_callV2 (k := 63) (s1 := 2) (s2 := 0) (as := [(0, 44)]) (rest := []) kx_197_455 kp_197_283 (Or.inl rfl) rfl (tk_63 hT) ki_181 kcl_181 rfl rfl (by decide) (m_181 (d := d + 1) (c := 44) hT hI2) (kF (fun v1356 v1356p => ?_))
                      refine s_if_ne (t := 470) kx_197_458 (by decide) (fun hc1357 => ?_) (fun hc1357 => ?_)
                      · replace v1356p := v1356p.resolve_right (by omega)
                        refine s_aload_n kx_197_470 rfl ?_
                        refine r_getK (k := 63) (f := 9) kx_197_471 kp_197_39 (tk_63 hT) kf_12_9 (fun _ => rfl) v11e ?_
                        refine s_if_le (t := 479) kx_197_474 (by decide) (fun hc1358 => ?_) (fun hc1358 => absurd hc1358 (by omega))
                        refine s_aload_n kx_197_479 rfl ?_
                        refine s_iconst (v := 1) kx_197_480 (by decide) ?_
                        refine s_callV2 (k := 63) (s1 := 2) (s2 := 0) (as := [(0, 1)]) (rest := []) kx_197_481 kp_197_370 (Or.inl rfl) rfl (tk_63 hT) ki_191 kcl_191 rfl rfl (by decide) (m_191 (d := d) (least := 1) hT hI2 (PI.fr hP fr2 rfl) (by omega) (by omega) (by omega)) (kV (fun M1360 hI1360 fr1360 v1359p => ?_))
                        have hFm1360 := hFm2.call fr1360 rfl
                        have tr1361 := (fr1360 63 3 rfl)
                        have tr1362 := (fr1360 63 4 rfl)
                        have tr1363 := (fr1360 63 5 rfl)
                        have tr1364 := (fr1360 63 9 rfl)
                        have tr1365 := (fr1360 63 42 rfl)
                        have tr1366 := rg_63_9 hI1360
                        have hd1367 := PI.deep v1359p.1
                        have hs1368 := PI.small v1359p.1 (rg_63_43 hI1360).2 (by decide)
                        have hs1368a := hs1368.1
                        have hs1368b := hs1368.2.1
                        have hs1368c := rg_63_45 hI1360
                        have hK1369 := KP.trans (KP.fr (KP.refl (M := M)) fr2 (fun _ => rfl)) (fr2 63 36 rfl) v1359p.2
                        have hk851370 : M1360 85 ((v13 - 1)).toNat = v14 := ((fr1360 85 _ rfl).trans v14e)
                        refine s_aload_n kx_197_484 rfl ?_
                        refine r_getR (k := 63) (f := 37) (k2 := 85) kx_197_485 kp_197_124 (tk_63 hT) kf_12_37 (by decide) (rq_63_37 hI1360) ?_
                        refine s_iload_n kx_197_488 rfl ?_
                        refine s_iload_n kx_197_489 rfl ?_
                        refine s_iconst (v := 3) kx_197_490 (by decide) ?_
                        refine s_icmp_ne (t := 498) kx_197_491 (by decide) (fun hc1371 => absurd hc1371 (by omega)) (fun hc1371 => ?_)
                        refine s_iconst (v := 4) kx_197_494 (by decide) ?_
                        refine s_goto (t := 499) kx_197_495 (by decide) ?_
                        refine r_ast (k := 85) kx_197_499 (tk_85 hT) ⟨by omega, by omega⟩ hI1360 (ru_85 (by omega) (by omega)) (fun M1372 hI1372 u1372 => ?_)
                        have hFm1372 := hFm1360.up u1372 rfl
                        have tr1373 := (u1372.2 63 3 (by omega))
                        have tr1374 := (u1372.2 63 4 (by omega))
                        have tr1375 := (u1372.2 63 5 (by omega))
                        have tr1376 := (u1372.2 63 9 (by omega))
                        have tr1377 := (u1372.2 63 35 (by omega))
                        have tr1378 := (u1372.2 63 42 (by omega))
                        have tr1379 := (u1372.2 63 43 (by omega))
                        have tr1380 := (u1372.2 63 45 (by omega))
                        refine s_aload_n kx_197_500 rfl ?_
                        refine r_getR (k := 63) (f := 38) (k2 := 86) kx_197_501 kp_197_127 (tk_63 hT) kf_12_38 (by decide) (rq_63_38 hI1372) ?_
                        refine s_iload_n kx_197_504 rfl ?_
                        refine s_iconst (v := 0) kx_197_505 (by decide) ?_
                        refine r_ast (k := 86) kx_197_506 (tk_86 hT) ⟨by omega, by omega⟩ hI1372 (ru_86 (by omega) (by omega)) (fun M1381 hI1381 u1381 => ?_)
                        have hFm1381 := hFm1372.up u1381 rfl
                        have tr1382 := (u1381.2 63 3 (by omega))
                        have tr1383 := (u1381.2 63 4 (by omega))
                        have tr1384 := (u1381.2 63 5 (by omega))
                        have tr1385 := (u1381.2 63 9 (by omega))
                        have tr1386 := (u1381.2 63 35 (by omega))
                        have tr1387 := (u1381.2 63 42 (by omega))
                        have tr1388 := (u1381.2 63 43 (by omega))
                        have tr1389 := (u1381.2 63 45 (by omega))
                        refine s_aload_n kx_197_507 rfl ?_
                        refine s_callV2 (k := 63) (s1 := 1) (s2 := 0) (as := []) (rest := []) kx_197_508 kp_197_286 (Or.inl rfl) rfl (tk_63 hT) ki_180 kcl_180 rfl rfl (by decide) (m_180 (d := d) hT hI1381) (kV (fun M1391 hI1391 fr1391 v1390p => ?_))
                        have hFm1391 := hFm1381.call fr1391 rfl
                        have tr1392 := (fr1391 63 9 rfl)
                        have tr1393 := (fr1391 63 35 rfl)
                        have tr1394 := (fr1391 63 42 rfl)
                        have tr1395 := (fr1391 63 43 rfl)
                        have tr1396 := (fr1391 63 45 rfl)
                        have tr1397 := rg_63_9 hI1391
                        refine s_aload_n kx_197_511 rfl ?_
                        refine s_iconst (v := 0) kx_197_512 (by decide) ?_
                        refine r_put (k := 63) (f := 46) kx_197_513 kp_197_152 (tk_63 hT) kf_12_46 rfl (by decide) (by decide) hI1391 (ru_63_46 (by omega) (by omega)) (fun M1398 hI1398 u1398 => ?_)
                        have hFm1398 := hFm1391.up u1398 rfl
                        have tr1399 := (u1398.2 63 3 (by omega))
                        have tr1400 := (u1398.2 63 4 (by omega))
                        have tr1401 := (u1398.2 63 5 (by omega))
                        have tr1402 := (u1398.2 63 9 (by omega))
                        have tr1403 := (u1398.2 63 35 (by omega))
                        have tr1404 := (u1398.2 63 42 (by omega))
                        have tr1405 := (u1398.2 63 43 (by omega))
                        have tr1406 := (u1398.2 63 45 (by omega))
                        refine s_iconst (v := 1) kx_197_516 (by decide) ?_
                        have hk1407 : M1398 63 9 = v11 := ((u1398.2 63 9 (by omega)).trans ((fr1391 63 9 rfl).trans ((u1381.2 63 9 (by omega)).trans ((u1372.2 63 9 (by omega)).trans ((fr1360 63 9 rfl).trans v11e)))))
                        exact s_iret kx_197_517 (Or.inr ⟨kq_197, by omega⟩) ⟨_, _, rfl, rfl, hI1398, hFm1398, ⟨by omega, by omega, (LXp.up (show LXp M1391 from v1390p.2) u1398 (by decide)), (by omega), (by omega), ⟨(Or.inr (Or.inr ⟨rfl, by omega, Or.inl ⟨u1398.1, PI.to7 (PI.fr (PI.fr (PI.phase (PI.comma v1359p.1 (by omega) (by omega) u1372) (Or.inr (by omega)) (by omega) u1381) fr1391 rfl) (Up.fr u1398) rfl) (by omega)⟩⟩)), (KP.up (KP.fr (KP.up (KP.up hK1369 u1372 (by decide)) u1381 (by decide)) fr1391 (fun _ => rfl)) u1398 (by decide))⟩⟩⟩
                      · replace v1356p := v1356p.resolve_left (by omega)
                        refine s_aload_n kx_197_461 rfl ?_
                        refine s_iconst (v := 1) kx_197_462 (by decide) ?_
                        refine s_aload_n kx_197_463 rfl ?_
                        refine r_getI (k := 63) (f := 4) kx_197_464 kp_197_23 (tk_63 hT) kf_12_4 (fun _ => rfl) (rg_63_4 hI2) (fun v1408 v1408e v1408a v1408b => ?_)
                        have v1408z : M 63 4 = v1408 := ((fr2 63 4 rfl)).symm.trans v1408e
                        refine s_callV2 (k := 63) (s1 := 3) (s2 := 0) (as := [(0, v1408), (0, 1)]) (rest := []) kx_197_467 kp_197_263 (Or.inl rfl) rfl (tk_63 hT) ki_176 kcl_176 rfl rfl (by decide) (m_176 (d := d + 1) (kind := 1) (place := v1408) hT hI2 (by omega)) (kV (fun M1410 hI1410 fr1410 v1409p => ?_))
                        have hFm1410 := hFm2.call fr1410 rfl
                        have tr1411 := (fr1410 63 3 rfl)
                        have tr1412 := (fr1410 63 4 rfl)
                        have tr1413 := (fr1410 63 5 rfl)
                        have tr1414 := (fr1410 63 35 rfl)
                        have tr1415 := (fr1410 63 42 rfl)
                        have tr1416 := (fr1410 63 43 rfl)
                        have tr1417 := (fr1410 63 45 rfl)
                        have tr1418 := rg_63_9 hI1410
                        refine s_aload_n kx_197_470 rfl ?_
                        refine r_getI (k := 63) (f := 9) kx_197_471 kp_197_39 (tk_63 hT) kf_12_9 (fun _ => rfl) (rg_63_9 hI1410) (fun v1419 v1419e v1419a v1419b => ?_)
                        refine s_if_le (t := 479) kx_197_474 (by decide) (fun hc1420 => ?_) (fun hc1420 => ?_)
                        · refine s_aload_n kx_197_479 rfl ?_
                          refine s_iconst (v := 1) kx_197_480 (by decide) ?_
                          refine s_callV2 (k := 63) (s1 := 2) (s2 := 0) (as := [(0, 1)]) (rest := []) kx_197_481 kp_197_370 (Or.inl rfl) rfl (tk_63 hT) ki_191 kcl_191 rfl rfl (by decide) (m_191 (d := d) (least := 1) hT hI1410 (PI.fr (PI.fr hP fr2 rfl) fr1410 rfl) (by omega) (by omega) (by omega)) (kV (fun M1422 hI1422 fr1422 v1421p => ?_))
                          have hFm1422 := hFm1410.call fr1422 rfl
                          have tr1423 := (fr1422 63 3 rfl)
                          have tr1424 := (fr1422 63 4 rfl)
                          have tr1425 := (fr1422 63 5 rfl)
                          have tr1426 := (fr1422 63 9 rfl)
                          have tr1427 := (fr1422 63 42 rfl)
                          have tr1428 := rg_63_9 hI1422
                          have hd1429 := PI.deep v1421p.1
                          have hs1430 := PI.small v1421p.1 (rg_63_43 hI1422).2 (by decide)
                          have hs1430a := hs1430.1
                          have hs1430b := hs1430.2.1
                          have hs1430c := rg_63_45 hI1422
                          have hK1431 := KP.trans (KP.fr (KP.fr (KP.refl (M := M)) fr2 (fun _ => rfl)) fr1410 (fun _ => rfl)) ((fr1410 63 36 rfl).trans (fr2 63 36 rfl)) v1421p.2
                          have hk851432 : M1422 85 ((v13 - 1)).toNat = v14 := ((fr1422 85 _ rfl).trans ((fr1410 85 _ rfl).trans v14e))
                          refine s_aload_n kx_197_484 rfl ?_
                          refine r_getR (k := 63) (f := 37) (k2 := 85) kx_197_485 kp_197_124 (tk_63 hT) kf_12_37 (by decide) (rq_63_37 hI1422) ?_
                          refine s_iload_n kx_197_488 rfl ?_
                          refine s_iload_n kx_197_489 rfl ?_
                          refine s_iconst (v := 3) kx_197_490 (by decide) ?_
                          refine s_icmp_ne (t := 498) kx_197_491 (by decide) (fun hc1433 => absurd hc1433 (by omega)) (fun hc1433 => ?_)
                          refine s_iconst (v := 4) kx_197_494 (by decide) ?_
                          refine s_goto (t := 499) kx_197_495 (by decide) ?_
                          refine r_ast (k := 85) kx_197_499 (tk_85 hT) ⟨by omega, by omega⟩ hI1422 (ru_85 (by omega) (by omega)) (fun M1434 hI1434 u1434 => ?_)
                          have hFm1434 := hFm1422.up u1434 rfl
                          have tr1435 := (u1434.2 63 3 (by omega))
                          have tr1436 := (u1434.2 63 4 (by omega))
                          have tr1437 := (u1434.2 63 5 (by omega))
                          have tr1438 := (u1434.2 63 9 (by omega))
                          have tr1439 := (u1434.2 63 35 (by omega))
                          have tr1440 := (u1434.2 63 42 (by omega))
                          have tr1441 := (u1434.2 63 43 (by omega))
                          have tr1442 := (u1434.2 63 45 (by omega))
                          refine s_aload_n kx_197_500 rfl ?_
                          refine r_getR (k := 63) (f := 38) (k2 := 86) kx_197_501 kp_197_127 (tk_63 hT) kf_12_38 (by decide) (rq_63_38 hI1434) ?_
                          refine s_iload_n kx_197_504 rfl ?_
                          refine s_iconst (v := 0) kx_197_505 (by decide) ?_
                          refine r_ast (k := 86) kx_197_506 (tk_86 hT) ⟨by omega, by omega⟩ hI1434 (ru_86 (by omega) (by omega)) (fun M1443 hI1443 u1443 => ?_)
                          have hFm1443 := hFm1434.up u1443 rfl
                          have tr1444 := (u1443.2 63 3 (by omega))
                          have tr1445 := (u1443.2 63 4 (by omega))
                          have tr1446 := (u1443.2 63 5 (by omega))
                          have tr1447 := (u1443.2 63 9 (by omega))
                          have tr1448 := (u1443.2 63 35 (by omega))
                          have tr1449 := (u1443.2 63 42 (by omega))
                          have tr1450 := (u1443.2 63 43 (by omega))
                          have tr1451 := (u1443.2 63 45 (by omega))
                          refine s_aload_n kx_197_507 rfl ?_
                          refine s_callV2 (k := 63) (s1 := 1) (s2 := 0) (as := []) (rest := []) kx_197_508 kp_197_286 (Or.inl rfl) rfl (tk_63 hT) ki_180 kcl_180 rfl rfl (by decide) (m_180 (d := d) hT hI1443) (kV (fun M1453 hI1453 fr1453 v1452p => ?_))
                          have hFm1453 := hFm1443.call fr1453 rfl
                          have tr1454 := (fr1453 63 9 rfl)
                          have tr1455 := (fr1453 63 35 rfl)
                          have tr1456 := (fr1453 63 42 rfl)
                          have tr1457 := (fr1453 63 43 rfl)
                          have tr1458 := (fr1453 63 45 rfl)
                          have tr1459 := rg_63_9 hI1453
                          refine s_aload_n kx_197_511 rfl ?_
                          refine s_iconst (v := 0) kx_197_512 (by decide) ?_
                          refine r_put (k := 63) (f := 46) kx_197_513 kp_197_152 (tk_63 hT) kf_12_46 rfl (by decide) (by decide) hI1453 (ru_63_46 (by omega) (by omega)) (fun M1460 hI1460 u1460 => ?_)
                          have hFm1460 := hFm1453.up u1460 rfl
                          have tr1461 := (u1460.2 63 3 (by omega))
                          have tr1462 := (u1460.2 63 4 (by omega))
                          have tr1463 := (u1460.2 63 5 (by omega))
                          have tr1464 := (u1460.2 63 9 (by omega))
                          have tr1465 := (u1460.2 63 35 (by omega))
                          have tr1466 := (u1460.2 63 42 (by omega))
                          have tr1467 := (u1460.2 63 43 (by omega))
                          have tr1468 := (u1460.2 63 45 (by omega))
                          refine s_iconst (v := 1) kx_197_516 (by decide) ?_
                          have hk1469 : M1460 63 9 = v1419 := ((u1460.2 63 9 (by omega)).trans ((fr1453 63 9 rfl).trans ((u1443.2 63 9 (by omega)).trans ((u1434.2 63 9 (by omega)).trans ((fr1422 63 9 rfl).trans v1419e)))))
                          exact s_iret kx_197_517 (Or.inr ⟨kq_197, by omega⟩) ⟨_, _, rfl, rfl, hI1460, hFm1460, ⟨by omega, by omega, (LXp.up (show LXp M1453 from v1452p.2) u1460 (by decide)), (by omega), (by omega), ⟨(Or.inr (Or.inr ⟨rfl, by omega, Or.inl ⟨u1460.1, PI.to7 (PI.fr (PI.fr (PI.phase (PI.comma v1421p.1 (by omega) (by omega) u1434) (Or.inr (by omega)) (by omega) u1443) fr1453 rfl) (Up.fr u1460) rfl) (by omega)⟩⟩)), (KP.up (KP.fr (KP.up (KP.up hK1431 u1434 (by decide)) u1443 (by decide)) fr1453 (fun _ => rfl)) u1460 (by decide))⟩⟩⟩
                        · refine s_iconst (v := 0) kx_197_477 (by decide) ?_
                          have hk1470 : M1410 63 4 = v1408 := ((fr1410 63 4 rfl).trans v1408e)
                          have hk1471 : M1410 63 9 = v1419 := v1419e
                          exact s_iret kx_197_478 (Or.inr ⟨kq_197, by omega⟩) ⟨_, _, rfl, rfl, hI1410, hFm1410, ⟨by omega, by omega, (LXp.fr (LXp.fr hX fr2 rfl) fr1410 rfl), (by omega), (by omega), ⟨(Or.inl (by omega)), (KP.fr (KP.fr (KP.refl (M := M)) fr2 (fun _ => rfl)) fr1410 (fun _ => rfl))⟩⟩⟩
                    · refine s_iload_n kx_197_446 rfl ?_
                      refine s_bipush (v := 6) kx_197_447 (by decide) ?_
                      refine s_icmp_ne (t := 518) kx_197_449 (by decide) (fun hc1472 => ?_) (fun hc1472 => ?_)
                      · refine s_aload_n kx_197_518 rfl ?_
                        refine s_iload_n kx_197_519 rfl ?_
                        refine s_iconst (v := 5) kx_197_520 (by decide) ?_
                        have jn1477 : ∀ (y1476 : Int), (41 ≤ y1476) → (y1476 ≤ 93) → cP k_P xs Ln (d + 2) 197 531 [(0, rf 63), (1, (0, (v13 - 1))), (2, (0, v14))] [(0, y1476), rf 63] (T, M2) (qW T M fS_197_m 0 (fun v M1 => 0 ≤ v ∧ v ≤ 1 ∧ (LXp M1 ∧ M 63 4 ≤ M1 63 4 ∧ M 63 9 ≤ M1 63 9 ∧ (GOd M M1 c a v ∧ KP M M1)))) := by
                          intro y1476 a1478 a1479
                          refine s_callV2 (k := 63) (s1 := 2) (s2 := 0) (as := [(0, y1476)]) (rest := []) kx_197_531 kp_197_283 (Or.inl rfl) rfl (tk_63 hT) ki_181 kcl_181 rfl rfl (by decide) (m_181 (d := d + 1) (c := y1476) hT hI2) (kF (fun v1480 v1480p => ?_))
                          refine s_if_ne (t := 546) kx_197_534 (by decide) (fun hc1481 => ?_) (fun hc1481 => ?_)
                          · replace v1480p := v1480p.resolve_right (by omega)
                            refine s_aload_n kx_197_546 rfl ?_
                            refine r_getK (k := 63) (f := 9) kx_197_547 kp_197_39 (tk_63 hT) kf_12_9 (fun _ => rfl) v11e ?_
                            refine s_if_le (t := 555) kx_197_550 (by decide) (fun hc1482 => ?_) (fun hc1482 => absurd hc1482 (by omega))
                            refine s_aload_n kx_197_555 rfl ?_
                            refine s_iconst (v := 1) kx_197_556 (by decide) ?_
                            refine s_callV2 (k := 63) (s1 := 2) (s2 := 0) (as := [(0, 1)]) (rest := []) kx_197_557 kp_197_370 (Or.inl rfl) rfl (tk_63 hT) ki_191 kcl_191 rfl rfl (by decide) (m_191 (d := d) (least := 1) hT hI2 (PI.fr hP fr2 rfl) (by omega) (by omega) (by omega)) (kV (fun M1484 hI1484 fr1484 v1483p => ?_))
                            have hFm1484 := hFm2.call fr1484 rfl
                            have tr1485 := (fr1484 63 3 rfl)
                            have tr1486 := (fr1484 63 4 rfl)
                            have tr1487 := (fr1484 63 5 rfl)
                            have tr1488 := (fr1484 63 9 rfl)
                            have tr1489 := (fr1484 63 42 rfl)
                            have tr1490 := rg_63_9 hI1484
                            have hd1491 := PI.deep v1483p.1
                            have hs1492 := PI.small v1483p.1 (rg_63_43 hI1484).2 (by decide)
                            have hs1492a := hs1492.1
                            have hs1492b := hs1492.2.1
                            have hs1492c := rg_63_45 hI1484
                            have hK1493 := KP.trans (KP.fr (KP.refl (M := M)) fr2 (fun _ => rfl)) (fr2 63 36 rfl) v1483p.2
                            refine s_aload_n kx_197_560 rfl ?_
                            refine s_dup kx_197_561 rfl ?_
                            refine r_getK (k := 63) (f := 42) kx_197_562 kp_197_140 (tk_63 hT) kf_12_42 (fun _ => rfl) ((fr1484 63 42 rfl).trans v13e) ?_
                            refine s_iconst (v := 1) kx_197_565 (by decide) ?_
                            refine r_sub kx_197_566 ⟨by omega, by omega⟩ ?_
                            refine r_put (k := 63) (f := 42) kx_197_567 kp_197_140 (tk_63 hT) kf_12_42 rfl (by decide) (by decide) hI1484 (ru_63_42 (by omega) (by omega)) (fun M1494 hI1494 u1494 => ?_)
                            have hFm1494 := hFm1484.up u1494 rfl
                            have tr1495 := (u1494.2 63 3 (by omega))
                            have tr1496 := (u1494.2 63 4 (by omega))
                            have tr1497 := (u1494.2 63 5 (by omega))
                            have tr1498 := (u1494.2 63 9 (by omega))
                            have tr1499 := (u1494.2 63 35 (by omega))
                            have tr1500 := u1494.1
                            have tr1501 := (u1494.2 63 43 (by omega))
                            have tr1502 := (u1494.2 63 45 (by omega))
                            have hcl1503 := PI.close v1483p.1 (by decide) (f := (v13 - 1)) (by omega) ((fr1484 85 _ rfl).trans v14e) (by omega) u1494 (by omega)
                            have hcl1503d := hcl1503.2.2.1
                            have hcl1503q := PI.deep hcl1503.1
                            refine s_aload_n kx_197_570 rfl ?_
                            refine s_dup kx_197_571 rfl ?_
                            refine r_getI (k := 63) (f := 43) kx_197_572 kp_197_143 (tk_63 hT) kf_12_43 (fun _ => rfl) (rg_63_43 hI1494) (fun v1504 v1504e v1504a v1504b => ?_)
                            refine s_iconst (v := 1) kx_197_575 (by decide) ?_
                            refine r_sub kx_197_576 ⟨by omega, by omega⟩ ?_
                            have hcl1503e := PI.e_le hcl1503.1
                            refine r_put (k := 63) (f := 43) kx_197_577 kp_197_143 (tk_63 hT) kf_12_43 rfl (by decide) (by decide) hI1494 (ru_63_43 (by omega) (by omega)) (fun M1505 hI1505 u1505 => ?_)
                            have hFm1505 := hFm1494.up u1505 rfl
                            have tr1506 := (u1505.2 63 3 (by omega))
                            have tr1507 := (u1505.2 63 4 (by omega))
                            have tr1508 := (u1505.2 63 5 (by omega))
                            have tr1509 := (u1505.2 63 9 (by omega))
                            have tr1510 := (u1505.2 63 35 (by omega))
                            have tr1511 := (u1505.2 63 42 (by omega))
                            have tr1512 := u1505.1
                            have tr1513 := (u1505.2 63 45 (by omega))
                            have hP1514 := (PI.opn (e' := 0) hcl1503.1 u1505 (by omega))
                            refine s_iload_n kx_197_580 rfl ?_
                            refine s_iconst (v := 4) kx_197_581 (by decide) ?_
                            refine s_icmp_ne (t := 596) kx_197_582 (by decide) (fun hc1515 => ?_) (fun hc1515 => ?_)
                            · have hP1516 := PI.comp0 hP1514 (by omega)
                              refine s_iload_n kx_197_596 rfl ?_
                              refine s_iconst (v := 5) kx_197_597 (by decide) ?_
                              refine s_icmp_ne (t := 613) kx_197_598 (by decide) (fun hc1517 => ?_) (fun hc1517 => ?_)
                              · refine s_aload_n kx_197_613 rfl ?_
                                refine s_callV2 (k := 63) (s1 := 1) (s2 := 0) (as := []) (rest := []) kx_197_614 kp_197_286 (Or.inl rfl) rfl (tk_63 hT) ki_180 kcl_180 rfl rfl (by decide) (m_180 (d := d) hT hI1505) (kV (fun M1519 hI1519 fr1519 v1518p => ?_))
                                have hFm1519 := hFm1505.call fr1519 rfl
                                have tr1520 := (fr1519 63 9 rfl)
                                have tr1521 := (fr1519 63 35 rfl)
                                have tr1522 := (fr1519 63 42 rfl)
                                have tr1523 := (fr1519 63 43 rfl)
                                have tr1524 := (fr1519 63 45 rfl)
                                have tr1525 := rg_63_9 hI1519
                                refine s_iconst (v := 1) kx_197_617 (by decide) ?_
                                have hk1526 : M1519 63 9 = v11 := ((fr1519 63 9 rfl).trans ((u1505.2 63 9 (by omega)).trans ((u1494.2 63 9 (by omega)).trans ((fr1484 63 9 rfl).trans v11e))))
                                exact s_iret kx_197_618 (Or.inr ⟨kq_197, by omega⟩) ⟨_, _, rfl, rfl, hI1519, hFm1519, ⟨by omega, by omega, (show LXp M1519 from v1518p.2), (by omega), (by omega), ⟨(Or.inr (Or.inr ⟨rfl, by omega, Or.inr ⟨((fr1519 63 46 rfl).trans ((u1505.2 63 46 (by omega)).trans ((u1494.2 63 46 (by omega)).trans ((fr1484 63 46 rfl).trans (fr2 63 46 rfl))))), (B0.fr (B0.up (show B0 M1494 from hcl1503.2.1) u1505 (by decide)) fr1519 rfl (fun _ => rfl)), PI.to7 (PI.fr hP1516 fr1519 rfl) (by omega)⟩⟩)), (KP.fr (KP.up (KP.up hK1493 u1494 (by decide)) u1505 (by decide)) fr1519 (fun _ => rfl))⟩⟩⟩
                              · refine s_aload_n kx_197_601 rfl ?_
                                refine r_getR (k := 63) (f := 38) (k2 := 86) kx_197_602 kp_197_127 (tk_63 hT) kf_12_38 (by decide) (rq_63_38 hI1505) ?_
                                refine s_aload_n kx_197_605 rfl ?_
                                refine r_getK (k := 63) (f := 42) kx_197_606 kp_197_140 (tk_63 hT) kf_12_42 (fun _ => rfl) ((u1505.2 63 42 (by omega)).trans u1494.1) ?_
                                refine s_iconst (v := 1) kx_197_609 (by decide) ?_
                                refine r_sub kx_197_610 ⟨by omega, by omega⟩ ?_
                                refine s_iconst (v := 2) kx_197_611 (by decide) ?_
                                refine r_ast (k := 86) kx_197_612 (tk_86 hT) ⟨by omega, by omega⟩ hI1505 (ru_86 (by omega) (by omega)) (fun M1527 hI1527 u1527 => ?_)
                                have hFm1527 := hFm1505.up u1527 rfl
                                have tr1528 := (u1527.2 63 3 (by omega))
                                have tr1529 := (u1527.2 63 4 (by omega))
                                have tr1530 := (u1527.2 63 5 (by omega))
                                have tr1531 := (u1527.2 63 9 (by omega))
                                have tr1532 := (u1527.2 63 35 (by omega))
                                have tr1533 := (u1527.2 63 42 (by omega))
                                have tr1534 := (u1527.2 63 43 (by omega))
                                have tr1535 := (u1527.2 63 45 (by omega))
                                refine s_aload_n kx_197_613 rfl ?_
                                refine s_callV2 (k := 63) (s1 := 1) (s2 := 0) (as := []) (rest := []) kx_197_614 kp_197_286 (Or.inl rfl) rfl (tk_63 hT) ki_180 kcl_180 rfl rfl (by decide) (m_180 (d := d) hT hI1527) (kV (fun M1537 hI1537 fr1537 v1536p => ?_))
                                have hFm1537 := hFm1527.call fr1537 rfl
                                have tr1538 := (fr1537 63 9 rfl)
                                have tr1539 := (fr1537 63 35 rfl)
                                have tr1540 := (fr1537 63 42 rfl)
                                have tr1541 := (fr1537 63 43 rfl)
                                have tr1542 := (fr1537 63 45 rfl)
                                have tr1543 := rg_63_9 hI1537
                                refine s_iconst (v := 1) kx_197_617 (by decide) ?_
                                have hk1544 : M1537 63 9 = v11 := ((fr1537 63 9 rfl).trans ((u1527.2 63 9 (by omega)).trans ((u1505.2 63 9 (by omega)).trans ((u1494.2 63 9 (by omega)).trans ((fr1484 63 9 rfl).trans v11e)))))
                                exact s_iret kx_197_618 (Or.inr ⟨kq_197, by omega⟩) ⟨_, _, rfl, rfl, hI1537, hFm1537, ⟨by omega, by omega, (show LXp M1537 from v1536p.2), (by omega), (by omega), ⟨(Or.inr (Or.inr ⟨rfl, by omega, Or.inr ⟨((fr1537 63 46 rfl).trans ((u1527.2 63 46 (by omega)).trans ((u1505.2 63 46 (by omega)).trans ((u1494.2 63 46 (by omega)).trans ((fr1484 63 46 rfl).trans (fr2 63 46 rfl)))))), (B0.fr (B0.up (B0.up (show B0 M1494 from hcl1503.2.1) u1505 (by decide)) u1527 ⟨by decide, Or.inl (by decide)⟩) fr1537 rfl (fun _ => rfl)), PI.to7 (PI.fr (PI.phase hP1516 (Or.inl (by decide)) (by omega) u1527) fr1537 rfl) (by omega)⟩⟩)), (KP.fr (KP.up (KP.up (KP.up hK1493 u1494 (by decide)) u1505 (by decide)) u1527 (by decide)) fr1537 (fun _ => rfl))⟩⟩⟩
                            · refine s_aload_n kx_197_585 rfl ?_
                              refine s_aload_n kx_197_586 rfl ?_
                              refine r_getR (k := 63) (f := 40) (k2 := 88) kx_197_587 kp_197_134 (tk_63 hT) kf_12_40 (by decide) (rq_63_40 hI1505) ?_
                              refine s_iload_n kx_197_590 rfl ?_
                              refine r_ald (k := 88) kx_197_591 (tk_88 hT) ⟨by omega, by omega⟩ (rg_88 hI1505) (fun v1545 v1545e v1545a v1545b => ?_)
                              have hpr1546 : v1545 = M1484 88 ((v13 - 1)).toNat := (v1545e).symm.trans ((u1505.2 88 _ (by omega)).trans (u1494.2 88 _ (by omega)))
                              refine s_iconst (v := 0) kx_197_592 (by decide) ?_
                              refine s_callV2 (k := 63) (s1 := 3) (s2 := 0) (as := [(0, 0), (0, v1545)]) (rest := []) kx_197_593 kp_197_352 (Or.inl rfl) rfl (tk_63 hT) ki_189 kcl_189 rfl rfl (by decide) (m_189 (d := d + 1) (sort := v1545) (v_ := 0) hT hI1505 (by omega) (by omega)) (kV (fun M1548 hI1548 fr1548 v1547p => ?_))
                              have hFm1548 := hFm1505.call fr1548 rfl
                              have tr1549 := (fr1548 63 3 rfl)
                              have tr1550 := (fr1548 63 4 rfl)
                              have tr1551 := (fr1548 63 5 rfl)
                              have tr1552 := (fr1548 63 9 rfl)
                              have tr1553 := (fr1548 63 42 rfl)
                              have tr1554 := (fr1548 63 43 rfl)
                              have tr1555 := (fr1548 63 45 rfl)
                              have tr1556 := rg_63_9 hI1548
                              have hP1557 := PI.code4 hP1514 (by omega) (hcl1503.2.2.2 (by omega)) fr1548 v1547p.1 (v1547p.2.1.trans hpr1546) v1547p.2.2
                              have hK1558 := KP.add (KP.up (KP.up hK1493 u1494 (by decide)) u1505 (by decide)) ((u1505.2 63 36 (by omega)).trans ((u1494.2 63 36 (by omega)).trans ((fr1484 63 36 rfl).trans (fr2 63 36 rfl)))) ⟨(rg_63_35 hI1505).1, by omega⟩ (rg_63_36 hI1505).1 v1547p.2.2
                              refine s_iload_n kx_197_596 rfl ?_
                              refine s_iconst (v := 5) kx_197_597 (by decide) ?_
                              refine s_icmp_ne (t := 613) kx_197_598 (by decide) (fun hc1559 => ?_) (fun hc1559 => absurd hc1559 (by omega))
                              refine s_aload_n kx_197_613 rfl ?_
                              refine s_callV2 (k := 63) (s1 := 1) (s2 := 0) (as := []) (rest := []) kx_197_614 kp_197_286 (Or.inl rfl) rfl (tk_63 hT) ki_180 kcl_180 rfl rfl (by decide) (m_180 (d := d) hT hI1548) (kV (fun M1561 hI1561 fr1561 v1560p => ?_))
                              have hFm1561 := hFm1548.call fr1561 rfl
                              have tr1562 := (fr1561 63 9 rfl)
                              have tr1563 := (fr1561 63 35 rfl)
                              have tr1564 := (fr1561 63 42 rfl)
                              have tr1565 := (fr1561 63 43 rfl)
                              have tr1566 := (fr1561 63 45 rfl)
                              have tr1567 := rg_63_9 hI1561
                              refine s_iconst (v := 1) kx_197_617 (by decide) ?_
                              have hk1568 : M1561 63 9 = v11 := ((fr1561 63 9 rfl).trans ((fr1548 63 9 rfl).trans ((u1505.2 63 9 (by omega)).trans ((u1494.2 63 9 (by omega)).trans ((fr1484 63 9 rfl).trans v11e)))))
                              exact s_iret kx_197_618 (Or.inr ⟨kq_197, by omega⟩) ⟨_, _, rfl, rfl, hI1561, hFm1561, ⟨by omega, by omega, (show LXp M1561 from v1560p.2), (by omega), (by omega), ⟨(Or.inr (Or.inr ⟨rfl, by omega, Or.inr ⟨((fr1561 63 46 rfl).trans ((fr1548 63 46 rfl).trans ((u1505.2 63 46 (by omega)).trans ((u1494.2 63 46 (by omega)).trans ((fr1484 63 46 rfl).trans (fr2 63 46 rfl)))))), (B0.fr (B0.fr (B0.up (show B0 M1494 from hcl1503.2.1) u1505 (by decide)) fr1548 rfl (fun _ => rfl)) fr1561 rfl (fun _ => rfl)), PI.to7 (PI.fr hP1557 fr1561 rfl) (by omega)⟩⟩)), (KP.fr hK1558 fr1561 (fun _ => rfl))⟩⟩⟩
                          · replace v1480p := v1480p.resolve_left (by omega)
                            refine s_aload_n kx_197_537 rfl ?_
                            refine s_iconst (v := 1) kx_197_538 (by decide) ?_
                            refine s_aload_n kx_197_539 rfl ?_
                            refine r_getI (k := 63) (f := 4) kx_197_540 kp_197_23 (tk_63 hT) kf_12_4 (fun _ => rfl) (rg_63_4 hI2) (fun v1569 v1569e v1569a v1569b => ?_)
                            have v1569z : M 63 4 = v1569 := ((fr2 63 4 rfl)).symm.trans v1569e
                            refine s_callV2 (k := 63) (s1 := 3) (s2 := 0) (as := [(0, v1569), (0, 1)]) (rest := []) kx_197_543 kp_197_263 (Or.inl rfl) rfl (tk_63 hT) ki_176 kcl_176 rfl rfl (by decide) (m_176 (d := d + 1) (kind := 1) (place := v1569) hT hI2 (by omega)) (kV (fun M1571 hI1571 fr1571 v1570p => ?_))
                            have hFm1571 := hFm2.call fr1571 rfl
                            have tr1572 := (fr1571 63 3 rfl)
                            have tr1573 := (fr1571 63 4 rfl)
                            have tr1574 := (fr1571 63 5 rfl)
                            have tr1575 := (fr1571 63 35 rfl)
                            have tr1576 := (fr1571 63 42 rfl)
                            have tr1577 := (fr1571 63 43 rfl)
                            have tr1578 := (fr1571 63 45 rfl)
                            have tr1579 := rg_63_9 hI1571
                            refine s_aload_n kx_197_546 rfl ?_
                            refine r_getI (k := 63) (f := 9) kx_197_547 kp_197_39 (tk_63 hT) kf_12_9 (fun _ => rfl) (rg_63_9 hI1571) (fun v1580 v1580e v1580a v1580b => ?_)
                            refine s_if_le (t := 555) kx_197_550 (by decide) (fun hc1581 => ?_) (fun hc1581 => ?_)
                            · refine s_aload_n kx_197_555 rfl ?_
                              refine s_iconst (v := 1) kx_197_556 (by decide) ?_
                              refine s_callV2 (k := 63) (s1 := 2) (s2 := 0) (as := [(0, 1)]) (rest := []) kx_197_557 kp_197_370 (Or.inl rfl) rfl (tk_63 hT) ki_191 kcl_191 rfl rfl (by decide) (m_191 (d := d) (least := 1) hT hI1571 (PI.fr (PI.fr hP fr2 rfl) fr1571 rfl) (by omega) (by omega) (by omega)) (kV (fun M1583 hI1583 fr1583 v1582p => ?_))
                              have hFm1583 := hFm1571.call fr1583 rfl
                              have tr1584 := (fr1583 63 3 rfl)
                              have tr1585 := (fr1583 63 4 rfl)
                              have tr1586 := (fr1583 63 5 rfl)
                              have tr1587 := (fr1583 63 9 rfl)
                              have tr1588 := (fr1583 63 42 rfl)
                              have tr1589 := rg_63_9 hI1583
                              have hd1590 := PI.deep v1582p.1
                              have hs1591 := PI.small v1582p.1 (rg_63_43 hI1583).2 (by decide)
                              have hs1591a := hs1591.1
                              have hs1591b := hs1591.2.1
                              have hs1591c := rg_63_45 hI1583
                              have hK1592 := KP.trans (KP.fr (KP.fr (KP.refl (M := M)) fr2 (fun _ => rfl)) fr1571 (fun _ => rfl)) ((fr1571 63 36 rfl).trans (fr2 63 36 rfl)) v1582p.2
                              refine s_aload_n kx_197_560 rfl ?_
                              refine s_dup kx_197_561 rfl ?_
                              refine r_getK (k := 63) (f := 42) kx_197_562 kp_197_140 (tk_63 hT) kf_12_42 (fun _ => rfl) ((fr1583 63 42 rfl).trans ((fr1571 63 42 rfl).trans v13e)) ?_
                              refine s_iconst (v := 1) kx_197_565 (by decide) ?_
                              refine r_sub kx_197_566 ⟨by omega, by omega⟩ ?_
                              refine r_put (k := 63) (f := 42) kx_197_567 kp_197_140 (tk_63 hT) kf_12_42 rfl (by decide) (by decide) hI1583 (ru_63_42 (by omega) (by omega)) (fun M1593 hI1593 u1593 => ?_)
                              have hFm1593 := hFm1583.up u1593 rfl
                              have tr1594 := (u1593.2 63 3 (by omega))
                              have tr1595 := (u1593.2 63 4 (by omega))
                              have tr1596 := (u1593.2 63 5 (by omega))
                              have tr1597 := (u1593.2 63 9 (by omega))
                              have tr1598 := (u1593.2 63 35 (by omega))
                              have tr1599 := u1593.1
                              have tr1600 := (u1593.2 63 43 (by omega))
                              have tr1601 := (u1593.2 63 45 (by omega))
                              have hcl1602 := PI.close v1582p.1 (by decide) (f := (v13 - 1)) (by omega) ((fr1583 85 _ rfl).trans ((fr1571 85 _ rfl).trans v14e)) (by omega) u1593 (by omega)
                              have hcl1602d := hcl1602.2.2.1
                              have hcl1602q := PI.deep hcl1602.1
                              refine s_aload_n kx_197_570 rfl ?_
                              refine s_dup kx_197_571 rfl ?_
                              refine r_getI (k := 63) (f := 43) kx_197_572 kp_197_143 (tk_63 hT) kf_12_43 (fun _ => rfl) (rg_63_43 hI1593) (fun v1603 v1603e v1603a v1603b => ?_)
                              refine s_iconst (v := 1) kx_197_575 (by decide) ?_
                              refine r_sub kx_197_576 ⟨by omega, by omega⟩ ?_
                              have hcl1602e := PI.e_le hcl1602.1
                              refine r_put (k := 63) (f := 43) kx_197_577 kp_197_143 (tk_63 hT) kf_12_43 rfl (by decide) (by decide) hI1593 (ru_63_43 (by omega) (by omega)) (fun M1604 hI1604 u1604 => ?_)
                              have hFm1604 := hFm1593.up u1604 rfl
                              have tr1605 := (u1604.2 63 3 (by omega))
                              have tr1606 := (u1604.2 63 4 (by omega))
                              have tr1607 := (u1604.2 63 5 (by omega))
                              have tr1608 := (u1604.2 63 9 (by omega))
                              have tr1609 := (u1604.2 63 35 (by omega))
                              have tr1610 := (u1604.2 63 42 (by omega))
                              have tr1611 := u1604.1
                              have tr1612 := (u1604.2 63 45 (by omega))
                              have hP1613 := (PI.opn (e' := 0) hcl1602.1 u1604 (by omega))
                              refine s_iload_n kx_197_580 rfl ?_
                              refine s_iconst (v := 4) kx_197_581 (by decide) ?_
                              refine s_icmp_ne (t := 596) kx_197_582 (by decide) (fun hc1614 => ?_) (fun hc1614 => ?_)
                              · have hP1615 := PI.comp0 hP1613 (by omega)
                                refine s_iload_n kx_197_596 rfl ?_
                                refine s_iconst (v := 5) kx_197_597 (by decide) ?_
                                refine s_icmp_ne (t := 613) kx_197_598 (by decide) (fun hc1616 => ?_) (fun hc1616 => ?_)
                                · refine s_aload_n kx_197_613 rfl ?_
                                  refine s_callV2 (k := 63) (s1 := 1) (s2 := 0) (as := []) (rest := []) kx_197_614 kp_197_286 (Or.inl rfl) rfl (tk_63 hT) ki_180 kcl_180 rfl rfl (by decide) (m_180 (d := d) hT hI1604) (kV (fun M1618 hI1618 fr1618 v1617p => ?_))
                                  have hFm1618 := hFm1604.call fr1618 rfl
                                  have tr1619 := (fr1618 63 9 rfl)
                                  have tr1620 := (fr1618 63 35 rfl)
                                  have tr1621 := (fr1618 63 42 rfl)
                                  have tr1622 := (fr1618 63 43 rfl)
                                  have tr1623 := (fr1618 63 45 rfl)
                                  have tr1624 := rg_63_9 hI1618
                                  refine s_iconst (v := 1) kx_197_617 (by decide) ?_
                                  have hk1625 : M1618 63 9 = v1580 := ((fr1618 63 9 rfl).trans ((u1604.2 63 9 (by omega)).trans ((u1593.2 63 9 (by omega)).trans ((fr1583 63 9 rfl).trans v1580e))))
                                  exact s_iret kx_197_618 (Or.inr ⟨kq_197, by omega⟩) ⟨_, _, rfl, rfl, hI1618, hFm1618, ⟨by omega, by omega, (show LXp M1618 from v1617p.2), (by omega), (by omega), ⟨(Or.inr (Or.inr ⟨rfl, by omega, Or.inr ⟨((fr1618 63 46 rfl).trans ((u1604.2 63 46 (by omega)).trans ((u1593.2 63 46 (by omega)).trans ((fr1583 63 46 rfl).trans ((fr1571 63 46 rfl).trans (fr2 63 46 rfl)))))), (B0.fr (B0.up (show B0 M1593 from hcl1602.2.1) u1604 (by decide)) fr1618 rfl (fun _ => rfl)), PI.to7 (PI.fr hP1615 fr1618 rfl) (by omega)⟩⟩)), (KP.fr (KP.up (KP.up hK1592 u1593 (by decide)) u1604 (by decide)) fr1618 (fun _ => rfl))⟩⟩⟩
                                · refine s_aload_n kx_197_601 rfl ?_
                                  refine r_getR (k := 63) (f := 38) (k2 := 86) kx_197_602 kp_197_127 (tk_63 hT) kf_12_38 (by decide) (rq_63_38 hI1604) ?_
                                  refine s_aload_n kx_197_605 rfl ?_
                                  refine r_getK (k := 63) (f := 42) kx_197_606 kp_197_140 (tk_63 hT) kf_12_42 (fun _ => rfl) ((u1604.2 63 42 (by omega)).trans u1593.1) ?_
                                  refine s_iconst (v := 1) kx_197_609 (by decide) ?_
                                  refine r_sub kx_197_610 ⟨by omega, by omega⟩ ?_
                                  refine s_iconst (v := 2) kx_197_611 (by decide) ?_
                                  refine r_ast (k := 86) kx_197_612 (tk_86 hT) ⟨by omega, by omega⟩ hI1604 (ru_86 (by omega) (by omega)) (fun M1626 hI1626 u1626 => ?_)
                                  have hFm1626 := hFm1604.up u1626 rfl
                                  have tr1627 := (u1626.2 63 3 (by omega))
                                  have tr1628 := (u1626.2 63 4 (by omega))
                                  have tr1629 := (u1626.2 63 5 (by omega))
                                  have tr1630 := (u1626.2 63 9 (by omega))
                                  have tr1631 := (u1626.2 63 35 (by omega))
                                  have tr1632 := (u1626.2 63 42 (by omega))
                                  have tr1633 := (u1626.2 63 43 (by omega))
                                  have tr1634 := (u1626.2 63 45 (by omega))
                                  refine s_aload_n kx_197_613 rfl ?_
                                  refine s_callV2 (k := 63) (s1 := 1) (s2 := 0) (as := []) (rest := []) kx_197_614 kp_197_286 (Or.inl rfl) rfl (tk_63 hT) ki_180 kcl_180 rfl rfl (by decide) (m_180 (d := d) hT hI1626) (kV (fun M1636 hI1636 fr1636 v1635p => ?_))
                                  have hFm1636 := hFm1626.call fr1636 rfl
                                  have tr1637 := (fr1636 63 9 rfl)
                                  have tr1638 := (fr1636 63 35 rfl)
                                  have tr1639 := (fr1636 63 42 rfl)
                                  have tr1640 := (fr1636 63 43 rfl)
                                  have tr1641 := (fr1636 63 45 rfl)
                                  have tr1642 := rg_63_9 hI1636
                                  refine s_iconst (v := 1) kx_197_617 (by decide) ?_
                                  have hk1643 : M1636 63 9 = v1580 := ((fr1636 63 9 rfl).trans ((u1626.2 63 9 (by omega)).trans ((u1604.2 63 9 (by omega)).trans ((u1593.2 63 9 (by omega)).trans ((fr1583 63 9 rfl).trans v1580e)))))
                                  exact s_iret kx_197_618 (Or.inr ⟨kq_197, by omega⟩) ⟨_, _, rfl, rfl, hI1636, hFm1636, ⟨by omega, by omega, (show LXp M1636 from v1635p.2), (by omega), (by omega), ⟨(Or.inr (Or.inr ⟨rfl, by omega, Or.inr ⟨((fr1636 63 46 rfl).trans ((u1626.2 63 46 (by omega)).trans ((u1604.2 63 46 (by omega)).trans ((u1593.2 63 46 (by omega)).trans ((fr1583 63 46 rfl).trans ((fr1571 63 46 rfl).trans (fr2 63 46 rfl))))))), (B0.fr (B0.up (B0.up (show B0 M1593 from hcl1602.2.1) u1604 (by decide)) u1626 ⟨by decide, Or.inl (by decide)⟩) fr1636 rfl (fun _ => rfl)), PI.to7 (PI.fr (PI.phase hP1615 (Or.inl (by decide)) (by omega) u1626) fr1636 rfl) (by omega)⟩⟩)), (KP.fr (KP.up (KP.up (KP.up hK1592 u1593 (by decide)) u1604 (by decide)) u1626 (by decide)) fr1636 (fun _ => rfl))⟩⟩⟩
                              · refine s_aload_n kx_197_585 rfl ?_
                                refine s_aload_n kx_197_586 rfl ?_
                                refine r_getR (k := 63) (f := 40) (k2 := 88) kx_197_587 kp_197_134 (tk_63 hT) kf_12_40 (by decide) (rq_63_40 hI1604) ?_
                                refine s_iload_n kx_197_590 rfl ?_
                                refine r_ald (k := 88) kx_197_591 (tk_88 hT) ⟨by omega, by omega⟩ (rg_88 hI1604) (fun v1644 v1644e v1644a v1644b => ?_)
                                have hpr1645 : v1644 = M1583 88 ((v13 - 1)).toNat := (v1644e).symm.trans ((u1604.2 88 _ (by omega)).trans (u1593.2 88 _ (by omega)))
                                refine s_iconst (v := 0) kx_197_592 (by decide) ?_
                                refine s_callV2 (k := 63) (s1 := 3) (s2 := 0) (as := [(0, 0), (0, v1644)]) (rest := []) kx_197_593 kp_197_352 (Or.inl rfl) rfl (tk_63 hT) ki_189 kcl_189 rfl rfl (by decide) (m_189 (d := d + 1) (sort := v1644) (v_ := 0) hT hI1604 (by omega) (by omega)) (kV (fun M1647 hI1647 fr1647 v1646p => ?_))
                                have hFm1647 := hFm1604.call fr1647 rfl
                                have tr1648 := (fr1647 63 3 rfl)
                                have tr1649 := (fr1647 63 4 rfl)
                                have tr1650 := (fr1647 63 5 rfl)
                                have tr1651 := (fr1647 63 9 rfl)
                                have tr1652 := (fr1647 63 42 rfl)
                                have tr1653 := (fr1647 63 43 rfl)
                                have tr1654 := (fr1647 63 45 rfl)
                                have tr1655 := rg_63_9 hI1647
                                have hP1656 := PI.code4 hP1613 (by omega) (hcl1602.2.2.2 (by omega)) fr1647 v1646p.1 (v1646p.2.1.trans hpr1645) v1646p.2.2
                                have hK1657 := KP.add (KP.up (KP.up hK1592 u1593 (by decide)) u1604 (by decide)) ((u1604.2 63 36 (by omega)).trans ((u1593.2 63 36 (by omega)).trans ((fr1583 63 36 rfl).trans ((fr1571 63 36 rfl).trans (fr2 63 36 rfl))))) ⟨(rg_63_35 hI1604).1, by omega⟩ (rg_63_36 hI1604).1 v1646p.2.2
                                refine s_iload_n kx_197_596 rfl ?_
                                refine s_iconst (v := 5) kx_197_597 (by decide) ?_
                                refine s_icmp_ne (t := 613) kx_197_598 (by decide) (fun hc1658 => ?_) (fun hc1658 => absurd hc1658 (by omega))
                                refine s_aload_n kx_197_613 rfl ?_
                                refine s_callV2 (k := 63) (s1 := 1) (s2 := 0) (as := []) (rest := []) kx_197_614 kp_197_286 (Or.inl rfl) rfl (tk_63 hT) ki_180 kcl_180 rfl rfl (by decide) (m_180 (d := d) hT hI1647) (kV (fun M1660 hI1660 fr1660 v1659p => ?_))
                                have hFm1660 := hFm1647.call fr1660 rfl
                                have tr1661 := (fr1660 63 9 rfl)
                                have tr1662 := (fr1660 63 35 rfl)
                                have tr1663 := (fr1660 63 42 rfl)
                                have tr1664 := (fr1660 63 43 rfl)
                                have tr1665 := (fr1660 63 45 rfl)
                                have tr1666 := rg_63_9 hI1660
                                refine s_iconst (v := 1) kx_197_617 (by decide) ?_
                                have hk1667 : M1660 63 9 = v1580 := ((fr1660 63 9 rfl).trans ((fr1647 63 9 rfl).trans ((u1604.2 63 9 (by omega)).trans ((u1593.2 63 9 (by omega)).trans ((fr1583 63 9 rfl).trans v1580e)))))
                                exact s_iret kx_197_618 (Or.inr ⟨kq_197, by omega⟩) ⟨_, _, rfl, rfl, hI1660, hFm1660, ⟨by omega, by omega, (show LXp M1660 from v1659p.2), (by omega), (by omega), ⟨(Or.inr (Or.inr ⟨rfl, by omega, Or.inr ⟨((fr1660 63 46 rfl).trans ((fr1647 63 46 rfl).trans ((u1604.2 63 46 (by omega)).trans ((u1593.2 63 46 (by omega)).trans ((fr1583 63 46 rfl).trans ((fr1571 63 46 rfl).trans (fr2 63 46 rfl))))))), (B0.fr (B0.fr (B0.up (show B0 M1593 from hcl1602.2.1) u1604 (by decide)) fr1647 rfl (fun _ => rfl)) fr1660 rfl (fun _ => rfl)), PI.to7 (PI.fr hP1656 fr1660 rfl) (by omega)⟩⟩)), (KP.fr hK1657 fr1660 (fun _ => rfl))⟩⟩⟩
                            · refine s_iconst (v := 0) kx_197_553 (by decide) ?_
                              have hk1668 : M1571 63 4 = v1569 := ((fr1571 63 4 rfl).trans v1569e)
                              have hk1669 : M1571 63 9 = v1580 := v1580e
                              exact s_iret kx_197_554 (Or.inr ⟨kq_197, by omega⟩) ⟨_, _, rfl, rfl, hI1571, hFm1571, ⟨by omega, by omega, (LXp.fr (LXp.fr hX fr2 rfl) fr1571 rfl), (by omega), (by omega), ⟨(Or.inl (by omega)), (KP.fr (KP.fr (KP.refl (M := M)) fr2 (fun _ => rfl)) fr1571 (fun _ => rfl))⟩⟩⟩
                        refine s_icmp_ne (t := 529) kx_197_521 (by decide) (fun hc1473 => ?_) (fun hc1473 => ?_)
                        · have hJ1474 : Fr fS_197_j521 M2 M2 := Fr.refl
                          refine s_bipush (v := 41) kx_197_529 (by decide) ?_
                          exact cP.wk (lS1 rfl (lS1 rfl (lS1 rfl lS0))) (jn1477 41 (by omega) (by omega))
                        · have hJ1475 : Fr fS_197_j521 M2 M2 := Fr.refl
                          refine s_bipush (v := 93) kx_197_524 (by decide) ?_
                          refine s_goto (t := 531) kx_197_526 (by decide) ?_
                          exact cP.wk (lS1 rfl (lS1 rfl (lS1 rfl lS0))) (jn1477 93 (by omega) (by omega))
                      · refine s_aload_n kx_197_452 rfl ?_
                        refine s_bipush (v := 44) kx_197_453 (by decide) ?_
                        refine s_callV2 (k := 63) (s1 := 2) (s2 := 0) (as := [(0, 44)]) (rest := []) kx_197_455 kp_197_283 (Or.inl rfl) rfl (tk_63 hT) ki_181 kcl_181 rfl rfl (by decide) (m_181 (d := d + 1) (c := 44) hT hI2) (kF (fun v1670 v1670p => ?_))
                        refine s_if_ne (t := 470) kx_197_458 (by decide) (fun hc1671 => ?_) (fun hc1671 => ?_)
                        · replace v1670p := v1670p.resolve_right (by omega)
                          refine s_aload_n kx_197_470 rfl ?_
                          refine r_getK (k := 63) (f := 9) kx_197_471 kp_197_39 (tk_63 hT) kf_12_9 (fun _ => rfl) v11e ?_
                          refine s_if_le (t := 479) kx_197_474 (by decide) (fun hc1672 => ?_) (fun hc1672 => absurd hc1672 (by omega))
                          refine s_aload_n kx_197_479 rfl ?_
                          refine s_iconst (v := 1) kx_197_480 (by decide) ?_
                          refine s_callV2 (k := 63) (s1 := 2) (s2 := 0) (as := [(0, 1)]) (rest := []) kx_197_481 kp_197_370 (Or.inl rfl) rfl (tk_63 hT) ki_191 kcl_191 rfl rfl (by decide) (m_191 (d := d) (least := 1) hT hI2 (PI.fr hP fr2 rfl) (by omega) (by omega) (by omega)) (kV (fun M1674 hI1674 fr1674 v1673p => ?_))
                          have hFm1674 := hFm2.call fr1674 rfl
                          have tr1675 := (fr1674 63 3 rfl)
                          have tr1676 := (fr1674 63 4 rfl)
                          have tr1677 := (fr1674 63 5 rfl)
                          have tr1678 := (fr1674 63 9 rfl)
                          have tr1679 := (fr1674 63 42 rfl)
                          have tr1680 := rg_63_9 hI1674
                          have hd1681 := PI.deep v1673p.1
                          have hs1682 := PI.small v1673p.1 (rg_63_43 hI1674).2 (by decide)
                          have hs1682a := hs1682.1
                          have hs1682b := hs1682.2.1
                          have hs1682c := rg_63_45 hI1674
                          have hK1683 := KP.trans (KP.fr (KP.refl (M := M)) fr2 (fun _ => rfl)) (fr2 63 36 rfl) v1673p.2
                          have hk851684 : M1674 85 ((v13 - 1)).toNat = v14 := ((fr1674 85 _ rfl).trans v14e)
                          refine s_aload_n kx_197_484 rfl ?_
                          refine r_getR (k := 63) (f := 37) (k2 := 85) kx_197_485 kp_197_124 (tk_63 hT) kf_12_37 (by decide) (rq_63_37 hI1674) ?_
                          refine s_iload_n kx_197_488 rfl ?_
                          refine s_iload_n kx_197_489 rfl ?_
                          refine s_iconst (v := 3) kx_197_490 (by decide) ?_
                          refine s_icmp_ne (t := 498) kx_197_491 (by decide) (fun hc1685 => ?_) (fun hc1685 => absurd hc1685 (by omega))
                          refine s_iconst (v := 3) kx_197_498 (by decide) ?_
                          refine r_ast (k := 85) kx_197_499 (tk_85 hT) ⟨by omega, by omega⟩ hI1674 (ru_85 (by omega) (by omega)) (fun M1686 hI1686 u1686 => ?_)
                          have hFm1686 := hFm1674.up u1686 rfl
                          have tr1687 := (u1686.2 63 3 (by omega))
                          have tr1688 := (u1686.2 63 4 (by omega))
                          have tr1689 := (u1686.2 63 5 (by omega))
                          have tr1690 := (u1686.2 63 9 (by omega))
                          have tr1691 := (u1686.2 63 35 (by omega))
                          have tr1692 := (u1686.2 63 42 (by omega))
                          have tr1693 := (u1686.2 63 43 (by omega))
                          have tr1694 := (u1686.2 63 45 (by omega))
                          refine s_aload_n kx_197_500 rfl ?_
                          refine r_getR (k := 63) (f := 38) (k2 := 86) kx_197_501 kp_197_127 (tk_63 hT) kf_12_38 (by decide) (rq_63_38 hI1686) ?_
                          refine s_iload_n kx_197_504 rfl ?_
                          refine s_iconst (v := 0) kx_197_505 (by decide) ?_
                          refine r_ast (k := 86) kx_197_506 (tk_86 hT) ⟨by omega, by omega⟩ hI1686 (ru_86 (by omega) (by omega)) (fun M1695 hI1695 u1695 => ?_)
                          have hFm1695 := hFm1686.up u1695 rfl
                          have tr1696 := (u1695.2 63 3 (by omega))
                          have tr1697 := (u1695.2 63 4 (by omega))
                          have tr1698 := (u1695.2 63 5 (by omega))
                          have tr1699 := (u1695.2 63 9 (by omega))
                          have tr1700 := (u1695.2 63 35 (by omega))
                          have tr1701 := (u1695.2 63 42 (by omega))
                          have tr1702 := (u1695.2 63 43 (by omega))
                          have tr1703 := (u1695.2 63 45 (by omega))
                          refine s_aload_n kx_197_507 rfl ?_
                          refine s_callV2 (k := 63) (s1 := 1) (s2 := 0) (as := []) (rest := []) kx_197_508 kp_197_286 (Or.inl rfl) rfl (tk_63 hT) ki_180 kcl_180 rfl rfl (by decide) (m_180 (d := d) hT hI1695) (kV (fun M1705 hI1705 fr1705 v1704p => ?_))
                          have hFm1705 := hFm1695.call fr1705 rfl
                          have tr1706 := (fr1705 63 9 rfl)
                          have tr1707 := (fr1705 63 35 rfl)
                          have tr1708 := (fr1705 63 42 rfl)
                          have tr1709 := (fr1705 63 43 rfl)
                          have tr1710 := (fr1705 63 45 rfl)
                          have tr1711 := rg_63_9 hI1705
                          refine s_aload_n kx_197_511 rfl ?_
                          refine s_iconst (v := 0) kx_197_512 (by decide) ?_
                          refine r_put (k := 63) (f := 46) kx_197_513 kp_197_152 (tk_63 hT) kf_12_46 rfl (by decide) (by decide) hI1705 (ru_63_46 (by omega) (by omega)) (fun M1712 hI1712 u1712 => ?_)
                          have hFm1712 := hFm1705.up u1712 rfl
                          have tr1713 := (u1712.2 63 3 (by omega))
                          have tr1714 := (u1712.2 63 4 (by omega))
                          have tr1715 := (u1712.2 63 5 (by omega))
                          have tr1716 := (u1712.2 63 9 (by omega))
                          have tr1717 := (u1712.2 63 35 (by omega))
                          have tr1718 := (u1712.2 63 42 (by omega))
                          have tr1719 := (u1712.2 63 43 (by omega))
                          have tr1720 := (u1712.2 63 45 (by omega))
                          refine s_iconst (v := 1) kx_197_516 (by decide) ?_
                          have hk1721 : M1712 63 9 = v11 := ((u1712.2 63 9 (by omega)).trans ((fr1705 63 9 rfl).trans ((u1695.2 63 9 (by omega)).trans ((u1686.2 63 9 (by omega)).trans ((fr1674 63 9 rfl).trans v11e)))))
                          exact s_iret kx_197_517 (Or.inr ⟨kq_197, by omega⟩) ⟨_, _, rfl, rfl, hI1712, hFm1712, ⟨by omega, by omega, (LXp.up (show LXp M1705 from v1704p.2) u1712 (by decide)), (by omega), (by omega), ⟨(Or.inr (Or.inr ⟨rfl, by omega, Or.inl ⟨u1712.1, PI.to7 (PI.fr (PI.fr (PI.phase (PI.comma v1673p.1 (by omega) (by omega) u1686) (Or.inr (by omega)) (by omega) u1695) fr1705 rfl) (Up.fr u1712) rfl) (by omega)⟩⟩)), (KP.up (KP.fr (KP.up (KP.up hK1683 u1686 (by decide)) u1695 (by decide)) fr1705 (fun _ => rfl)) u1712 (by decide))⟩⟩⟩
                        · replace v1670p := v1670p.resolve_left (by omega)
                          refine s_aload_n kx_197_461 rfl ?_
                          refine s_iconst (v := 1) kx_197_462 (by decide) ?_
                          refine s_aload_n kx_197_463 rfl ?_
                          refine r_getI (k := 63) (f := 4) kx_197_464 kp_197_23 (tk_63 hT) kf_12_4 (fun _ => rfl) (rg_63_4 hI2) (fun v1722 v1722e v1722a v1722b => ?_)
                          have v1722z : M 63 4 = v1722 := ((fr2 63 4 rfl)).symm.trans v1722e
                          refine s_callV2 (k := 63) (s1 := 3) (s2 := 0) (as := [(0, v1722), (0, 1)]) (rest := []) kx_197_467 kp_197_263 (Or.inl rfl) rfl (tk_63 hT) ki_176 kcl_176 rfl rfl (by decide) (m_176 (d := d + 1) (kind := 1) (place := v1722) hT hI2 (by omega)) (kV (fun M1724 hI1724 fr1724 v1723p => ?_))
                          have hFm1724 := hFm2.call fr1724 rfl
                          have tr1725 := (fr1724 63 3 rfl)
                          have tr1726 := (fr1724 63 4 rfl)
                          have tr1727 := (fr1724 63 5 rfl)
                          have tr1728 := (fr1724 63 35 rfl)
                          have tr1729 := (fr1724 63 42 rfl)
                          have tr1730 := (fr1724 63 43 rfl)
                          have tr1731 := (fr1724 63 45 rfl)
                          have tr1732 := rg_63_9 hI1724
                          refine s_aload_n kx_197_470 rfl ?_
                          refine r_getI (k := 63) (f := 9) kx_197_471 kp_197_39 (tk_63 hT) kf_12_9 (fun _ => rfl) (rg_63_9 hI1724) (fun v1733 v1733e v1733a v1733b => ?_)
                          refine s_if_le (t := 479) kx_197_474 (by decide) (fun hc1734 => ?_) (fun hc1734 => ?_)
                          · refine s_aload_n kx_197_479 rfl ?_
                            refine s_iconst (v := 1) kx_197_480 (by decide) ?_
                            refine s_callV2 (k := 63) (s1 := 2) (s2 := 0) (as := [(0, 1)]) (rest := []) kx_197_481 kp_197_370 (Or.inl rfl) rfl (tk_63 hT) ki_191 kcl_191 rfl rfl (by decide) (m_191 (d := d) (least := 1) hT hI1724 (PI.fr (PI.fr hP fr2 rfl) fr1724 rfl) (by omega) (by omega) (by omega)) (kV (fun M1736 hI1736 fr1736 v1735p => ?_))
                            have hFm1736 := hFm1724.call fr1736 rfl
                            have tr1737 := (fr1736 63 3 rfl)
                            have tr1738 := (fr1736 63 4 rfl)
                            have tr1739 := (fr1736 63 5 rfl)
                            have tr1740 := (fr1736 63 9 rfl)
                            have tr1741 := (fr1736 63 42 rfl)
                            have tr1742 := rg_63_9 hI1736
                            have hd1743 := PI.deep v1735p.1
                            have hs1744 := PI.small v1735p.1 (rg_63_43 hI1736).2 (by decide)
                            have hs1744a := hs1744.1
                            have hs1744b := hs1744.2.1
                            have hs1744c := rg_63_45 hI1736
                            have hK1745 := KP.trans (KP.fr (KP.fr (KP.refl (M := M)) fr2 (fun _ => rfl)) fr1724 (fun _ => rfl)) ((fr1724 63 36 rfl).trans (fr2 63 36 rfl)) v1735p.2
                            have hk851746 : M1736 85 ((v13 - 1)).toNat = v14 := ((fr1736 85 _ rfl).trans ((fr1724 85 _ rfl).trans v14e))
                            refine s_aload_n kx_197_484 rfl ?_
                            refine r_getR (k := 63) (f := 37) (k2 := 85) kx_197_485 kp_197_124 (tk_63 hT) kf_12_37 (by decide) (rq_63_37 hI1736) ?_
                            refine s_iload_n kx_197_488 rfl ?_
                            refine s_iload_n kx_197_489 rfl ?_
                            refine s_iconst (v := 3) kx_197_490 (by decide) ?_
                            refine s_icmp_ne (t := 498) kx_197_491 (by decide) (fun hc1747 => ?_) (fun hc1747 => absurd hc1747 (by omega))
                            refine s_iconst (v := 3) kx_197_498 (by decide) ?_
                            refine r_ast (k := 85) kx_197_499 (tk_85 hT) ⟨by omega, by omega⟩ hI1736 (ru_85 (by omega) (by omega)) (fun M1748 hI1748 u1748 => ?_)
                            have hFm1748 := hFm1736.up u1748 rfl
                            have tr1749 := (u1748.2 63 3 (by omega))
                            have tr1750 := (u1748.2 63 4 (by omega))
                            have tr1751 := (u1748.2 63 5 (by omega))
                            have tr1752 := (u1748.2 63 9 (by omega))
                            have tr1753 := (u1748.2 63 35 (by omega))
                            have tr1754 := (u1748.2 63 42 (by omega))
                            have tr1755 := (u1748.2 63 43 (by omega))
                            have tr1756 := (u1748.2 63 45 (by omega))
                            refine s_aload_n kx_197_500 rfl ?_
                            refine r_getR (k := 63) (f := 38) (k2 := 86) kx_197_501 kp_197_127 (tk_63 hT) kf_12_38 (by decide) (rq_63_38 hI1748) ?_
                            refine s_iload_n kx_197_504 rfl ?_
                            refine s_iconst (v := 0) kx_197_505 (by decide) ?_
                            refine r_ast (k := 86) kx_197_506 (tk_86 hT) ⟨by omega, by omega⟩ hI1748 (ru_86 (by omega) (by omega)) (fun M1757 hI1757 u1757 => ?_)
                            have hFm1757 := hFm1748.up u1757 rfl
                            have tr1758 := (u1757.2 63 3 (by omega))
                            have tr1759 := (u1757.2 63 4 (by omega))
                            have tr1760 := (u1757.2 63 5 (by omega))
                            have tr1761 := (u1757.2 63 9 (by omega))
                            have tr1762 := (u1757.2 63 35 (by omega))
                            have tr1763 := (u1757.2 63 42 (by omega))
                            have tr1764 := (u1757.2 63 43 (by omega))
                            have tr1765 := (u1757.2 63 45 (by omega))
                            refine s_aload_n kx_197_507 rfl ?_
                            refine s_callV2 (k := 63) (s1 := 1) (s2 := 0) (as := []) (rest := []) kx_197_508 kp_197_286 (Or.inl rfl) rfl (tk_63 hT) ki_180 kcl_180 rfl rfl (by decide) (m_180 (d := d) hT hI1757) (kV (fun M1767 hI1767 fr1767 v1766p => ?_))
                            have hFm1767 := hFm1757.call fr1767 rfl
                            have tr1768 := (fr1767 63 9 rfl)
                            have tr1769 := (fr1767 63 35 rfl)
                            have tr1770 := (fr1767 63 42 rfl)
                            have tr1771 := (fr1767 63 43 rfl)
                            have tr1772 := (fr1767 63 45 rfl)
                            have tr1773 := rg_63_9 hI1767
                            refine s_aload_n kx_197_511 rfl ?_
                            refine s_iconst (v := 0) kx_197_512 (by decide) ?_
                            refine r_put (k := 63) (f := 46) kx_197_513 kp_197_152 (tk_63 hT) kf_12_46 rfl (by decide) (by decide) hI1767 (ru_63_46 (by omega) (by omega)) (fun M1774 hI1774 u1774 => ?_)
                            have hFm1774 := hFm1767.up u1774 rfl
                            have tr1775 := (u1774.2 63 3 (by omega))
                            have tr1776 := (u1774.2 63 4 (by omega))
                            have tr1777 := (u1774.2 63 5 (by omega))
                            have tr1778 := (u1774.2 63 9 (by omega))
                            have tr1779 := (u1774.2 63 35 (by omega))
                            have tr1780 := (u1774.2 63 42 (by omega))
                            have tr1781 := (u1774.2 63 43 (by omega))
                            have tr1782 := (u1774.2 63 45 (by omega))
                            refine s_iconst (v := 1) kx_197_516 (by decide) ?_
                            have hk1783 : M1774 63 9 = v1733 := ((u1774.2 63 9 (by omega)).trans ((fr1767 63 9 rfl).trans ((u1757.2 63 9 (by omega)).trans ((u1748.2 63 9 (by omega)).trans ((fr1736 63 9 rfl).trans v1733e)))))
                            exact s_iret kx_197_517 (Or.inr ⟨kq_197, by omega⟩) ⟨_, _, rfl, rfl, hI1774, hFm1774, ⟨by omega, by omega, (LXp.up (show LXp M1767 from v1766p.2) u1774 (by decide)), (by omega), (by omega), ⟨(Or.inr (Or.inr ⟨rfl, by omega, Or.inl ⟨u1774.1, PI.to7 (PI.fr (PI.fr (PI.phase (PI.comma v1735p.1 (by omega) (by omega) u1748) (Or.inr (by omega)) (by omega) u1757) fr1767 rfl) (Up.fr u1774) rfl) (by omega)⟩⟩)), (KP.up (KP.fr (KP.up (KP.up hK1745 u1748 (by decide)) u1757 (by decide)) fr1767 (fun _ => rfl)) u1774 (by decide))⟩⟩⟩
                          · refine s_iconst (v := 0) kx_197_477 (by decide) ?_
                            have hk1784 : M1724 63 4 = v1722 := ((fr1724 63 4 rfl).trans v1722e)
                            have hk1785 : M1724 63 9 = v1733 := v1733e
                            exact s_iret kx_197_478 (Or.inr ⟨kq_197, by omega⟩) ⟨_, _, rfl, rfl, hI1724, hFm1724, ⟨by omega, by omega, (LXp.fr (LXp.fr hX fr2 rfl) fr1724 rfl), (by omega), (by omega), ⟨(Or.inl (by omega)), (KP.fr (KP.fr (KP.refl (M := M)) fr2 (fun _ => rfl)) fr1724 (fun _ => rfl))⟩⟩⟩
                  · refine s_aload_n kx_197_427 rfl ?_
                    refine r_getK (k := 63) (f := 9) kx_197_428 kp_197_39 (tk_63 hT) kf_12_9 (fun _ => rfl) v11e ?_
                    refine s_if_ne (t := 439) kx_197_431 (by decide) (fun hc1786 => absurd hc1786 (by omega)) (fun hc1786 => ?_)
                    refine s_aload_n kx_197_434 rfl ?_
                    refine s_iconst (v := 1) kx_197_435 (by decide) ?_
                    refine s_callV2 (k := 63) (s1 := 2) (s2 := 0) (as := [(0, 1)]) (rest := []) kx_197_436 kp_197_370 (Or.inl rfl) rfl (tk_63 hT) ki_191 kcl_191 rfl rfl (by decide) (m_191 (d := d) (least := 1) hT hI2 (PI.fr hP fr2 rfl) (by omega) (by omega) (by omega)) (kV (fun M1788 hI1788 fr1788 v1787p => ?_))
                    have hFm1788 := hFm2.call fr1788 rfl
                    have tr1789 := (fr1788 63 3 rfl)
                    have tr1790 := (fr1788 63 4 rfl)
                    have tr1791 := (fr1788 63 5 rfl)
                    have tr1792 := (fr1788 63 9 rfl)
                    have tr1793 := (fr1788 63 42 rfl)
                    have tr1794 := rg_63_9 hI1788
                    have hK1795 := KP.trans (KP.fr (KP.refl (M := M)) fr2 (fun _ => rfl)) (fr2 63 36 rfl) v1787p.2
                    refine s_iconst (v := 0) kx_197_439 (by decide) ?_
                    have hk1796 : M1788 63 9 = v11 := ((fr1788 63 9 rfl).trans v11e)
                    exact s_iret kx_197_440 (Or.inr ⟨kq_197, by omega⟩) ⟨_, _, rfl, rfl, hI1788, hFm1788, ⟨by omega, by omega, (LXp.fr (LXp.fr hX fr2 rfl) fr1788 rfl), (by omega), (by omega), ⟨(if h9 : 1 ≤ M1788 63 9 then Or.inl h9 else Or.inr (Or.inl ⟨rfl, PI.to7 v1787p.1 (by omega)⟩)), hK1795⟩⟩⟩
                · replace v15p := v15p.resolve_right (by omega)
                  refine s_aload_n kx_197_192 rfl ?_
                  refine r_getR (k := 63) (f := 38) (k2 := 86) kx_197_193 kp_197_127 (tk_63 hT) kf_12_38 (by decide) (rq_63_38 hI2) ?_
                  refine s_iload_n kx_197_196 rfl ?_
                  refine r_aldK (k := 86) kx_197_197 (tk_86 hT) ⟨by omega, by omega⟩ v16e ?_
                  refine s_if_ne (t := 285) kx_197_198 (by decide) (fun hc1797 => ?_) (fun hc1797 => ?_)
                  · refine s_iload_n kx_197_285 rfl ?_
                    refine s_if_eq (t := 400) kx_197_286 (by decide) (fun hc1798 => absurd hc1798 (by omega)) (fun hc1798 => ?_)
                    refine s_aload_n kx_197_289 rfl ?_
                    refine s_ldc2_w kx_197_290 kp_197_327 ?_
                    refine s_callV2 (k := 63) (s1 := 3) (s2 := 0) (as := [(1, 6385252)]) (rest := []) kx_197_293 kp_197_361 (Or.inl rfl) rfl (tk_63 hT) ki_182 kcl_182 rfl rfl (by decide) (m_182 (d := d + 1) (w := 6385252) hT hI2) (kF (fun v1799 v1799p => ?_))
                    refine s_if_ne (t := 309) kx_197_296 (by decide) (fun hc1800 => ?_) (fun hc1800 => ?_)
                    · replace v1799p := v1799p.resolve_right (by omega)
                      refine s_aload_n kx_197_309 rfl ?_
                      refine r_getR (k := 63) (f := 38) (k2 := 86) kx_197_310 kp_197_127 (tk_63 hT) kf_12_38 (by decide) (rq_63_38 hI2) ?_
                      refine s_iload_n kx_197_313 rfl ?_
                      refine r_aldK (k := 86) kx_197_314 (tk_86 hT) ⟨by omega, by omega⟩ v16e ?_
                      refine s_if_ne (t := 327) kx_197_315 (by decide) (fun hc1801 => ?_) (fun hc1801 => absurd hc1801 (by omega))
                      refine s_aload_n kx_197_327 rfl ?_
                      refine r_getK (k := 63) (f := 9) kx_197_328 kp_197_39 (tk_63 hT) kf_12_9 (fun _ => rfl) v11e ?_
                      refine s_if_le (t := 336) kx_197_331 (by decide) (fun hc1802 => ?_) (fun hc1802 => absurd hc1802 (by omega))
                      refine s_aload_n kx_197_336 rfl ?_
                      refine s_ldc2_w kx_197_337 kp_197_327 ?_
                      refine s_callV2 (k := 63) (s1 := 3) (s2 := 0) (as := [(1, 6385252)]) (rest := []) kx_197_340 kp_197_361 (Or.inl rfl) rfl (tk_63 hT) ki_182 kcl_182 rfl rfl (by decide) (m_182 (d := d + 1) (w := 6385252) hT hI2) (kF (fun v1803 v1803p => ?_))
                      refine s_istore kx_197_343 km_197_4 rfl ?_
                      refine s_aload_n kx_197_345 rfl ?_
                      refine s_iload kx_197_346 rfl ?_
                      have jn1808 : ∀ (y1807 : Int), (1 ≤ y1807) → (y1807 ≤ 2) → ((y1807 = 2 ∧ v1803 ≠ 0) ∨ (y1807 = 1 ∧ v1803 = 0)) → cP k_P xs Ln (d + 2) 197 356 [(0, rf 63), (1, (0, (v13 - 1))), (4, (0, v1803))] [(0, y1807), rf 63] (T, M2) (qW T M fS_197_m 0 (fun v M1 => 0 ≤ v ∧ v ≤ 1 ∧ (LXp M1 ∧ M 63 4 ≤ M1 63 4 ∧ M 63 9 ≤ M1 63 9 ∧ (GOd M M1 c a v ∧ KP M M1)))) := by
                        intro y1807 a1809 a1810 a1811
                        refine s_callV2 (k := 63) (s1 := 2) (s2 := 0) (as := [(0, y1807)]) (rest := []) kx_197_356 kp_197_370 (Or.inl rfl) rfl (tk_63 hT) ki_191 kcl_191 rfl rfl (by decide) (m_191 (d := d) (least := y1807) hT hI2 (PI.fr hP fr2 rfl) (by omega) (by omega) (by omega)) (kV (fun M1813 hI1813 fr1813 v1812p => ?_))
                        have hFm1813 := hFm2.call fr1813 rfl
                        have tr1814 := (fr1813 63 3 rfl)
                        have tr1815 := (fr1813 63 4 rfl)
                        have tr1816 := (fr1813 63 5 rfl)
                        have tr1817 := (fr1813 63 9 rfl)
                        have tr1818 := (fr1813 63 42 rfl)
                        have tr1819 := rg_63_9 hI1813
                        have hd1820 := PI.deep v1812p.1
                        have hs1821 := PI.small v1812p.1 (rg_63_43 hI1813).2 (by decide)
                        have hs1821a := hs1821.1
                        have hs1821b := hs1821.2.1
                        have hs1821c := rg_63_45 hI1813
                        have hK1822 := KP.trans (KP.fr (KP.refl (M := M)) fr2 (fun _ => rfl)) (fr2 63 36 rfl) v1812p.2
                        refine s_aload_n kx_197_359 rfl ?_
                        refine s_iload kx_197_360 rfl ?_
                        have jn1827 : ∀ (y1826 : Int), (20 ≤ y1826) → (y1826 ≤ 21) → ((y1826 = 20 ∧ v1803 ≠ 0) ∨ (y1826 = 21 ∧ v1803 = 0)) → cP k_P xs Ln (d + 2) 197 372 [(0, rf 63), (1, (0, (v13 - 1)))] [(0, y1826), rf 63] (T, M1813) (qW T M fS_197_m 0 (fun v M1 => 0 ≤ v ∧ v ≤ 1 ∧ (LXp M1 ∧ M 63 4 ≤ M1 63 4 ∧ M 63 9 ≤ M1 63 9 ∧ (GOd M M1 c a v ∧ KP M M1)))) := by
                          intro y1826 a1828 a1829 a1830
                          refine s_callV2 (k := 63) (s1 := 2) (s2 := 0) (as := [(0, y1826)]) (rest := []) kx_197_372 kp_197_364 (Or.inl rfl) rfl (tk_63 hT) ki_192 kcl_192 rfl rfl (by decide) (m_192 (d := d + 1) (op := y1826) hT hI1813 (by omega) (by omega)) (kV (fun M1832 hI1832 fr1832 v1831p => ?_))
                          have hFm1832 := hFm1813.call fr1832 rfl
                          have tr1833 := (fr1832 63 3 rfl)
                          have tr1834 := (fr1832 63 4 rfl)
                          have tr1835 := (fr1832 63 5 rfl)
                          have tr1836 := (fr1832 63 9 rfl)
                          have tr1837 := (fr1832 63 35 rfl)
                          have tr1838 := (fr1832 63 42 rfl)
                          have tr1839 := (fr1832 63 43 rfl)
                          have tr1840 := rg_63_9 hI1832
                          have hP1841 := PI.holdL v1812p.1 (B0.fr (B0.fr hB fr2 rfl (fun _ => rfl)) fr1813 rfl (fun _ => rfl)) (by omega) fr1832 v1831p.1 v1831p.2.1 v1831p.2.2
                          refine s_aload_n kx_197_375 rfl ?_
                          refine r_getR (k := 63) (f := 38) (k2 := 86) kx_197_376 kp_197_127 (tk_63 hT) kf_12_38 (by decide) (rq_63_38 hI1832) ?_
                          refine s_iload_n kx_197_379 rfl ?_
                          refine s_iconst (v := 0) kx_197_380 (by decide) ?_
                          refine r_ast (k := 86) kx_197_381 (tk_86 hT) ⟨by omega, by omega⟩ hI1832 (ru_86 (by omega) (by omega)) (fun M1842 hI1842 u1842 => ?_)
                          have hFm1842 := hFm1832.up u1842 rfl
                          have tr1843 := (u1842.2 63 3 (by omega))
                          have tr1844 := (u1842.2 63 4 (by omega))
                          have tr1845 := (u1842.2 63 5 (by omega))
                          have tr1846 := (u1842.2 63 9 (by omega))
                          have tr1847 := (u1842.2 63 35 (by omega))
                          have tr1848 := (u1842.2 63 42 (by omega))
                          have tr1849 := (u1842.2 63 43 (by omega))
                          have tr1850 := (u1842.2 63 45 (by omega))
                          refine s_aload_n kx_197_382 rfl ?_
                          refine r_getR (k := 63) (f := 39) (k2 := 87) kx_197_383 kp_197_130 (tk_63 hT) kf_12_39 (by decide) (rq_63_39 hI1842) ?_
                          refine s_iload_n kx_197_386 rfl ?_
                          refine s_iconst (v := 1) kx_197_387 (by decide) ?_
                          refine r_bast (k := 87) kx_197_388 (tk_87 hT) ⟨by omega, by omega⟩ (by omega) hI1842 (ru_87 (by omega) (by omega)) (fun M1851 hI1851 u1851 => ?_)
                          have hFm1851 := hFm1842.up u1851 rfl
                          have tr1852 := (u1851.2 63 3 (by omega))
                          have tr1853 := (u1851.2 63 4 (by omega))
                          have tr1854 := (u1851.2 63 5 (by omega))
                          have tr1855 := (u1851.2 63 9 (by omega))
                          have tr1856 := (u1851.2 63 35 (by omega))
                          have tr1857 := (u1851.2 63 42 (by omega))
                          have tr1858 := (u1851.2 63 43 (by omega))
                          have tr1859 := (u1851.2 63 45 (by omega))
                          refine s_aload_n kx_197_389 rfl ?_
                          refine s_callV2 (k := 63) (s1 := 1) (s2 := 0) (as := []) (rest := []) kx_197_390 kp_197_286 (Or.inl rfl) rfl (tk_63 hT) ki_180 kcl_180 rfl rfl (by decide) (m_180 (d := d) hT hI1851) (kV (fun M1861 hI1861 fr1861 v1860p => ?_))
                          have hFm1861 := hFm1851.call fr1861 rfl
                          have tr1862 := (fr1861 63 9 rfl)
                          have tr1863 := (fr1861 63 35 rfl)
                          have tr1864 := (fr1861 63 42 rfl)
                          have tr1865 := (fr1861 63 43 rfl)
                          have tr1866 := (fr1861 63 45 rfl)
                          have tr1867 := rg_63_9 hI1861
                          refine s_aload_n kx_197_393 rfl ?_
                          refine s_iconst (v := 0) kx_197_394 (by decide) ?_
                          refine r_put (k := 63) (f := 46) kx_197_395 kp_197_152 (tk_63 hT) kf_12_46 rfl (by decide) (by decide) hI1861 (ru_63_46 (by omega) (by omega)) (fun M1868 hI1868 u1868 => ?_)
                          have hFm1868 := hFm1861.up u1868 rfl
                          have tr1869 := (u1868.2 63 3 (by omega))
                          have tr1870 := (u1868.2 63 4 (by omega))
                          have tr1871 := (u1868.2 63 5 (by omega))
                          have tr1872 := (u1868.2 63 9 (by omega))
                          have tr1873 := (u1868.2 63 35 (by omega))
                          have tr1874 := (u1868.2 63 42 (by omega))
                          have tr1875 := (u1868.2 63 43 (by omega))
                          have tr1876 := (u1868.2 63 45 (by omega))
                          refine s_iconst (v := 1) kx_197_398 (by decide) ?_
                          have hk1877 : M1868 63 9 = v11 := ((u1868.2 63 9 (by omega)).trans ((fr1861 63 9 rfl).trans ((u1851.2 63 9 (by omega)).trans ((u1842.2 63 9 (by omega)).trans ((fr1832 63 9 rfl).trans ((fr1813 63 9 rfl).trans v11e))))))
                          exact s_iret kx_197_399 (Or.inr ⟨kq_197, by omega⟩) ⟨_, _, rfl, rfl, hI1868, hFm1868, ⟨by omega, by omega, (LXp.up (show LXp M1861 from v1860p.2) u1868 (by decide)), (by omega), (by omega), ⟨(Or.inr (Or.inr ⟨rfl, by omega, Or.inl ⟨u1868.1, PI.to7 (PI.fr (PI.fr (PI.begins1 (PI.phase hP1841 (Or.inr (by omega)) (by omega) u1842) (by omega) (by omega) u1851) fr1861 rfl) (Up.fr u1868) rfl) (by omega)⟩⟩)), (KP.up (KP.fr (KP.up (KP.up (KP.fr hK1822 fr1832 (fun _ => rfl)) u1842 (by decide)) u1851 (by decide)) fr1861 (fun _ => rfl)) u1868 (by decide))⟩⟩⟩
                        refine s_if_eq (t := 370) kx_197_362 (by decide) (fun hc1823 => ?_) (fun hc1823 => ?_)
                        · have hJ1824 : Fr fS_197_j362 M1813 M1813 := Fr.refl
                          refine s_bipush (v := 21) kx_197_370 (by decide) ?_
                          exact cP.wk (lS1 rfl (lS1 rfl lS0)) (jn1827 21 (by omega) (by omega) (by omega))
                        · have hJ1825 : Fr fS_197_j362 M1813 M1813 := Fr.refl
                          refine s_bipush (v := 20) kx_197_365 (by decide) ?_
                          refine s_goto (t := 372) kx_197_367 (by decide) ?_
                          exact cP.wk (lS1 rfl (lS1 rfl lS0)) (jn1827 20 (by omega) (by omega) (by omega))
                      refine s_if_eq (t := 355) kx_197_348 (by decide) (fun hc1804 => ?_) (fun hc1804 => ?_)
                      · have hJ1805 : Fr fS_197_j348 M2 M2 := Fr.refl
                        replace v1803p := v1803p.resolve_left (by omega)
                        refine s_iconst (v := 1) kx_197_355 (by decide) ?_
                        exact cP.wk (lS1 rfl (lS1 rfl (lS1 rfl lS0))) (jn1808 1 (by omega) (by omega) (by omega))
                      · have hJ1806 : Fr fS_197_j348 M2 M2 := Fr.refl
                        replace v1803p := v1803p.resolve_right (by omega)
                        refine s_iconst (v := 2) kx_197_351 (by decide) ?_
                        refine s_goto (t := 356) kx_197_352 (by decide) ?_
                        exact cP.wk (lS1 rfl (lS1 rfl (lS1 rfl lS0))) (jn1808 2 (by omega) (by omega) (by omega))
                    · replace v1799p := v1799p.resolve_left (by omega)
                      refine s_aload_n kx_197_299 rfl ?_
                      refine s_ldc2_w kx_197_300 kp_197_325 ?_
                      refine s_callV2 (k := 63) (s1 := 3) (s2 := 0) (as := [(1, 28530)]) (rest := []) kx_197_303 kp_197_361 (Or.inl rfl) rfl (tk_63 hT) ki_182 kcl_182 rfl rfl (by decide) (m_182 (d := d + 1) (w := 28530) hT hI2) (kF (fun v1878 v1878p => ?_))
                      refine s_if_eq (t := 400) kx_197_306 (by decide) (fun hc1879 => ?_) (fun hc1879 => ?_)
                      · replace v1878p := v1878p.resolve_left (by omega)
                        refine s_iload_n kx_197_400 rfl ?_
                        refine s_if_eq (t := 422) kx_197_401 (by decide) (fun hc1880 => absurd hc1880 (by omega)) (fun hc1880 => ?_)
                        refine s_aload_n kx_197_404 rfl ?_
                        refine r_getR (k := 63) (f := 38) (k2 := 86) kx_197_405 kp_197_127 (tk_63 hT) kf_12_38 (by decide) (rq_63_38 hI2) ?_
                        refine s_iload_n kx_197_408 rfl ?_
                        refine r_aldK (k := 86) kx_197_409 (tk_86 hT) ⟨by omega, by omega⟩ v16e ?_
                        refine s_if_ne (t := 422) kx_197_410 (by decide) (fun hc1881 => ?_) (fun hc1881 => absurd hc1881 (by omega))
                        refine s_iload_n kx_197_422 rfl ?_
                        refine s_iconst (v := 2) kx_197_423 (by decide) ?_
                        refine s_icmp_ge (t := 441) kx_197_424 (by decide) (fun hc1882 => ?_) (fun hc1882 => ?_)
                        · refine s_iload_n kx_197_441 rfl ?_
                          refine s_iconst (v := 3) kx_197_442 (by decide) ?_
                          refine s_icmp_eq (t := 452) kx_197_443 (by decide) (fun hc1883 => ?_) (fun hc1883 => ?_)
                          · refine s_aload_n kx_197_452 rfl ?_
                            refine s_bipush (v := 44) kx_197_453 (by decide) ?_
                            refine s_callV2 (k := 63) (s1 := 2) (s2 := 0) (as := [(0, 44)]) (rest := []) kx_197_455 kp_197_283 (Or.inl rfl) rfl (tk_63 hT) ki_181 kcl_181 rfl rfl (by decide) (m_181 (d := d + 1) (c := 44) hT hI2) (kF (fun v1884 v1884p => ?_))
                            refine s_if_ne (t := 470) kx_197_458 (by decide) (fun hc1885 => ?_) (fun hc1885 => ?_)
                            · replace v1884p := v1884p.resolve_right (by omega)
                              refine s_aload_n kx_197_470 rfl ?_
                              refine r_getK (k := 63) (f := 9) kx_197_471 kp_197_39 (tk_63 hT) kf_12_9 (fun _ => rfl) v11e ?_
                              refine s_if_le (t := 479) kx_197_474 (by decide) (fun hc1886 => ?_) (fun hc1886 => absurd hc1886 (by omega))
                              refine s_aload_n kx_197_479 rfl ?_
                              refine s_iconst (v := 1) kx_197_480 (by decide) ?_
                              refine s_callV2 (k := 63) (s1 := 2) (s2 := 0) (as := [(0, 1)]) (rest := []) kx_197_481 kp_197_370 (Or.inl rfl) rfl (tk_63 hT) ki_191 kcl_191 rfl rfl (by decide) (m_191 (d := d) (least := 1) hT hI2 (PI.fr hP fr2 rfl) (by omega) (by omega) (by omega)) (kV (fun M1888 hI1888 fr1888 v1887p => ?_))
                              have hFm1888 := hFm2.call fr1888 rfl
                              have tr1889 := (fr1888 63 3 rfl)
                              have tr1890 := (fr1888 63 4 rfl)
                              have tr1891 := (fr1888 63 5 rfl)
                              have tr1892 := (fr1888 63 9 rfl)
                              have tr1893 := (fr1888 63 42 rfl)
                              have tr1894 := rg_63_9 hI1888
                              have hd1895 := PI.deep v1887p.1
                              have hs1896 := PI.small v1887p.1 (rg_63_43 hI1888).2 (by decide)
                              have hs1896a := hs1896.1
                              have hs1896b := hs1896.2.1
                              have hs1896c := rg_63_45 hI1888
                              have hK1897 := KP.trans (KP.fr (KP.refl (M := M)) fr2 (fun _ => rfl)) (fr2 63 36 rfl) v1887p.2
                              have hk851898 : M1888 85 ((v13 - 1)).toNat = v14 := ((fr1888 85 _ rfl).trans v14e)
                              refine s_aload_n kx_197_484 rfl ?_
                              refine r_getR (k := 63) (f := 37) (k2 := 85) kx_197_485 kp_197_124 (tk_63 hT) kf_12_37 (by decide) (rq_63_37 hI1888) ?_
                              refine s_iload_n kx_197_488 rfl ?_
                              refine s_iload_n kx_197_489 rfl ?_
                              refine s_iconst (v := 3) kx_197_490 (by decide) ?_
                              refine s_icmp_ne (t := 498) kx_197_491 (by decide) (fun hc1899 => absurd hc1899 (by omega)) (fun hc1899 => ?_)
                              refine s_iconst (v := 4) kx_197_494 (by decide) ?_
                              refine s_goto (t := 499) kx_197_495 (by decide) ?_
                              refine r_ast (k := 85) kx_197_499 (tk_85 hT) ⟨by omega, by omega⟩ hI1888 (ru_85 (by omega) (by omega)) (fun M1900 hI1900 u1900 => ?_)
                              have hFm1900 := hFm1888.up u1900 rfl
                              have tr1901 := (u1900.2 63 3 (by omega))
                              have tr1902 := (u1900.2 63 4 (by omega))
                              have tr1903 := (u1900.2 63 5 (by omega))
                              have tr1904 := (u1900.2 63 9 (by omega))
                              have tr1905 := (u1900.2 63 35 (by omega))
                              have tr1906 := (u1900.2 63 42 (by omega))
                              have tr1907 := (u1900.2 63 43 (by omega))
                              have tr1908 := (u1900.2 63 45 (by omega))
                              refine s_aload_n kx_197_500 rfl ?_
                              refine r_getR (k := 63) (f := 38) (k2 := 86) kx_197_501 kp_197_127 (tk_63 hT) kf_12_38 (by decide) (rq_63_38 hI1900) ?_
                              refine s_iload_n kx_197_504 rfl ?_
                              refine s_iconst (v := 0) kx_197_505 (by decide) ?_
                              refine r_ast (k := 86) kx_197_506 (tk_86 hT) ⟨by omega, by omega⟩ hI1900 (ru_86 (by omega) (by omega)) (fun M1909 hI1909 u1909 => ?_)
                              have hFm1909 := hFm1900.up u1909 rfl
                              have tr1910 := (u1909.2 63 3 (by omega))
                              have tr1911 := (u1909.2 63 4 (by omega))
                              have tr1912 := (u1909.2 63 5 (by omega))
                              have tr1913 := (u1909.2 63 9 (by omega))
                              have tr1914 := (u1909.2 63 35 (by omega))
                              have tr1915 := (u1909.2 63 42 (by omega))
                              have tr1916 := (u1909.2 63 43 (by omega))
                              have tr1917 := (u1909.2 63 45 (by omega))
                              refine s_aload_n kx_197_507 rfl ?_
                              refine s_callV2 (k := 63) (s1 := 1) (s2 := 0) (as := []) (rest := []) kx_197_508 kp_197_286 (Or.inl rfl) rfl (tk_63 hT) ki_180 kcl_180 rfl rfl (by decide) (m_180 (d := d) hT hI1909) (kV (fun M1919 hI1919 fr1919 v1918p => ?_))
                              have hFm1919 := hFm1909.call fr1919 rfl
                              have tr1920 := (fr1919 63 9 rfl)
                              have tr1921 := (fr1919 63 35 rfl)
                              have tr1922 := (fr1919 63 42 rfl)
                              have tr1923 := (fr1919 63 43 rfl)
                              have tr1924 := (fr1919 63 45 rfl)
                              have tr1925 := rg_63_9 hI1919
                              refine s_aload_n kx_197_511 rfl ?_
                              refine s_iconst (v := 0) kx_197_512 (by decide) ?_
                              refine r_put (k := 63) (f := 46) kx_197_513 kp_197_152 (tk_63 hT) kf_12_46 rfl (by decide) (by decide) hI1919 (ru_63_46 (by omega) (by omega)) (fun M1926 hI1926 u1926 => ?_)
                              have hFm1926 := hFm1919.up u1926 rfl
                              have tr1927 := (u1926.2 63 3 (by omega))
                              have tr1928 := (u1926.2 63 4 (by omega))
                              have tr1929 := (u1926.2 63 5 (by omega))
                              have tr1930 := (u1926.2 63 9 (by omega))
                              have tr1931 := (u1926.2 63 35 (by omega))
                              have tr1932 := (u1926.2 63 42 (by omega))
                              have tr1933 := (u1926.2 63 43 (by omega))
                              have tr1934 := (u1926.2 63 45 (by omega))
                              refine s_iconst (v := 1) kx_197_516 (by decide) ?_
                              have hk1935 : M1926 63 9 = v11 := ((u1926.2 63 9 (by omega)).trans ((fr1919 63 9 rfl).trans ((u1909.2 63 9 (by omega)).trans ((u1900.2 63 9 (by omega)).trans ((fr1888 63 9 rfl).trans v11e)))))
                              exact s_iret kx_197_517 (Or.inr ⟨kq_197, by omega⟩) ⟨_, _, rfl, rfl, hI1926, hFm1926, ⟨by omega, by omega, (LXp.up (show LXp M1919 from v1918p.2) u1926 (by decide)), (by omega), (by omega), ⟨(Or.inr (Or.inr ⟨rfl, by omega, Or.inl ⟨u1926.1, PI.to7 (PI.fr (PI.fr (PI.phase (PI.comma v1887p.1 (by omega) (by omega) u1900) (Or.inr (by omega)) (by omega) u1909) fr1919 rfl) (Up.fr u1926) rfl) (by omega)⟩⟩)), (KP.up (KP.fr (KP.up (KP.up hK1897 u1900 (by decide)) u1909 (by decide)) fr1919 (fun _ => rfl)) u1926 (by decide))⟩⟩⟩
                            · replace v1884p := v1884p.resolve_left (by omega)
                              refine s_aload_n kx_197_461 rfl ?_
                              refine s_iconst (v := 1) kx_197_462 (by decide) ?_
                              refine s_aload_n kx_197_463 rfl ?_
                              refine r_getI (k := 63) (f := 4) kx_197_464 kp_197_23 (tk_63 hT) kf_12_4 (fun _ => rfl) (rg_63_4 hI2) (fun v1936 v1936e v1936a v1936b => ?_)
                              have v1936z : M 63 4 = v1936 := ((fr2 63 4 rfl)).symm.trans v1936e
                              refine s_callV2 (k := 63) (s1 := 3) (s2 := 0) (as := [(0, v1936), (0, 1)]) (rest := []) kx_197_467 kp_197_263 (Or.inl rfl) rfl (tk_63 hT) ki_176 kcl_176 rfl rfl (by decide) (m_176 (d := d + 1) (kind := 1) (place := v1936) hT hI2 (by omega)) (kV (fun M1938 hI1938 fr1938 v1937p => ?_))
                              have hFm1938 := hFm2.call fr1938 rfl
                              have tr1939 := (fr1938 63 3 rfl)
                              have tr1940 := (fr1938 63 4 rfl)
                              have tr1941 := (fr1938 63 5 rfl)
                              have tr1942 := (fr1938 63 35 rfl)
                              have tr1943 := (fr1938 63 42 rfl)
                              have tr1944 := (fr1938 63 43 rfl)
                              have tr1945 := (fr1938 63 45 rfl)
                              have tr1946 := rg_63_9 hI1938
                              refine s_aload_n kx_197_470 rfl ?_
                              refine r_getI (k := 63) (f := 9) kx_197_471 kp_197_39 (tk_63 hT) kf_12_9 (fun _ => rfl) (rg_63_9 hI1938) (fun v1947 v1947e v1947a v1947b => ?_)
                              refine s_if_le (t := 479) kx_197_474 (by decide) (fun hc1948 => ?_) (fun hc1948 => ?_)
                              · refine s_aload_n kx_197_479 rfl ?_
                                refine s_iconst (v := 1) kx_197_480 (by decide) ?_
                                refine s_callV2 (k := 63) (s1 := 2) (s2 := 0) (as := [(0, 1)]) (rest := []) kx_197_481 kp_197_370 (Or.inl rfl) rfl (tk_63 hT) ki_191 kcl_191 rfl rfl (by decide) (m_191 (d := d) (least := 1) hT hI1938 (PI.fr (PI.fr hP fr2 rfl) fr1938 rfl) (by omega) (by omega) (by omega)) (kV (fun M1950 hI1950 fr1950 v1949p => ?_))
                                have hFm1950 := hFm1938.call fr1950 rfl
                                have tr1951 := (fr1950 63 3 rfl)
                                have tr1952 := (fr1950 63 4 rfl)
                                have tr1953 := (fr1950 63 5 rfl)
                                have tr1954 := (fr1950 63 9 rfl)
                                have tr1955 := (fr1950 63 42 rfl)
                                have tr1956 := rg_63_9 hI1950
                                have hd1957 := PI.deep v1949p.1
                                have hs1958 := PI.small v1949p.1 (rg_63_43 hI1950).2 (by decide)
                                have hs1958a := hs1958.1
                                have hs1958b := hs1958.2.1
                                have hs1958c := rg_63_45 hI1950
                                have hK1959 := KP.trans (KP.fr (KP.fr (KP.refl (M := M)) fr2 (fun _ => rfl)) fr1938 (fun _ => rfl)) ((fr1938 63 36 rfl).trans (fr2 63 36 rfl)) v1949p.2
                                have hk851960 : M1950 85 ((v13 - 1)).toNat = v14 := ((fr1950 85 _ rfl).trans ((fr1938 85 _ rfl).trans v14e))
                                refine s_aload_n kx_197_484 rfl ?_
                                refine r_getR (k := 63) (f := 37) (k2 := 85) kx_197_485 kp_197_124 (tk_63 hT) kf_12_37 (by decide) (rq_63_37 hI1950) ?_
                                refine s_iload_n kx_197_488 rfl ?_
                                refine s_iload_n kx_197_489 rfl ?_
                                refine s_iconst (v := 3) kx_197_490 (by decide) ?_
                                refine s_icmp_ne (t := 498) kx_197_491 (by decide) (fun hc1961 => absurd hc1961 (by omega)) (fun hc1961 => ?_)
                                refine s_iconst (v := 4) kx_197_494 (by decide) ?_
                                refine s_goto (t := 499) kx_197_495 (by decide) ?_
                                refine r_ast (k := 85) kx_197_499 (tk_85 hT) ⟨by omega, by omega⟩ hI1950 (ru_85 (by omega) (by omega)) (fun M1962 hI1962 u1962 => ?_)
                                have hFm1962 := hFm1950.up u1962 rfl
                                have tr1963 := (u1962.2 63 3 (by omega))
                                have tr1964 := (u1962.2 63 4 (by omega))
                                have tr1965 := (u1962.2 63 5 (by omega))
                                have tr1966 := (u1962.2 63 9 (by omega))
                                have tr1967 := (u1962.2 63 35 (by omega))
                                have tr1968 := (u1962.2 63 42 (by omega))
                                have tr1969 := (u1962.2 63 43 (by omega))
                                have tr1970 := (u1962.2 63 45 (by omega))
                                refine s_aload_n kx_197_500 rfl ?_
                                refine r_getR (k := 63) (f := 38) (k2 := 86) kx_197_501 kp_197_127 (tk_63 hT) kf_12_38 (by decide) (rq_63_38 hI1962) ?_
                                refine s_iload_n kx_197_504 rfl ?_
                                refine s_iconst (v := 0) kx_197_505 (by decide) ?_
                                refine r_ast (k := 86) kx_197_506 (tk_86 hT) ⟨by omega, by omega⟩ hI1962 (ru_86 (by omega) (by omega)) (fun M1971 hI1971 u1971 => ?_)
                                have hFm1971 := hFm1962.up u1971 rfl
                                have tr1972 := (u1971.2 63 3 (by omega))
                                have tr1973 := (u1971.2 63 4 (by omega))
                                have tr1974 := (u1971.2 63 5 (by omega))
                                have tr1975 := (u1971.2 63 9 (by omega))
                                have tr1976 := (u1971.2 63 35 (by omega))
                                have tr1977 := (u1971.2 63 42 (by omega))
                                have tr1978 := (u1971.2 63 43 (by omega))
                                have tr1979 := (u1971.2 63 45 (by omega))
                                refine s_aload_n kx_197_507 rfl ?_
                                refine s_callV2 (k := 63) (s1 := 1) (s2 := 0) (as := []) (rest := []) kx_197_508 kp_197_286 (Or.inl rfl) rfl (tk_63 hT) ki_180 kcl_180 rfl rfl (by decide) (m_180 (d := d) hT hI1971) (kV (fun M1981 hI1981 fr1981 v1980p => ?_))
                                have hFm1981 := hFm1971.call fr1981 rfl
                                have tr1982 := (fr1981 63 9 rfl)
                                have tr1983 := (fr1981 63 35 rfl)
                                have tr1984 := (fr1981 63 42 rfl)
                                have tr1985 := (fr1981 63 43 rfl)
                                have tr1986 := (fr1981 63 45 rfl)
                                have tr1987 := rg_63_9 hI1981
                                refine s_aload_n kx_197_511 rfl ?_
                                refine s_iconst (v := 0) kx_197_512 (by decide) ?_
                                refine r_put (k := 63) (f := 46) kx_197_513 kp_197_152 (tk_63 hT) kf_12_46 rfl (by decide) (by decide) hI1981 (ru_63_46 (by omega) (by omega)) (fun M1988 hI1988 u1988 => ?_)
                                have hFm1988 := hFm1981.up u1988 rfl
                                have tr1989 := (u1988.2 63 3 (by omega))
                                have tr1990 := (u1988.2 63 4 (by omega))
                                have tr1991 := (u1988.2 63 5 (by omega))
                                have tr1992 := (u1988.2 63 9 (by omega))
                                have tr1993 := (u1988.2 63 35 (by omega))
                                have tr1994 := (u1988.2 63 42 (by omega))
                                have tr1995 := (u1988.2 63 43 (by omega))
                                have tr1996 := (u1988.2 63 45 (by omega))
                                refine s_iconst (v := 1) kx_197_516 (by decide) ?_
                                have hk1997 : M1988 63 9 = v1947 := ((u1988.2 63 9 (by omega)).trans ((fr1981 63 9 rfl).trans ((u1971.2 63 9 (by omega)).trans ((u1962.2 63 9 (by omega)).trans ((fr1950 63 9 rfl).trans v1947e)))))
                                exact s_iret kx_197_517 (Or.inr ⟨kq_197, by omega⟩) ⟨_, _, rfl, rfl, hI1988, hFm1988, ⟨by omega, by omega, (LXp.up (show LXp M1981 from v1980p.2) u1988 (by decide)), (by omega), (by omega), ⟨(Or.inr (Or.inr ⟨rfl, by omega, Or.inl ⟨u1988.1, PI.to7 (PI.fr (PI.fr (PI.phase (PI.comma v1949p.1 (by omega) (by omega) u1962) (Or.inr (by omega)) (by omega) u1971) fr1981 rfl) (Up.fr u1988) rfl) (by omega)⟩⟩)), (KP.up (KP.fr (KP.up (KP.up hK1959 u1962 (by decide)) u1971 (by decide)) fr1981 (fun _ => rfl)) u1988 (by decide))⟩⟩⟩
                              · refine s_iconst (v := 0) kx_197_477 (by decide) ?_
                                have hk1998 : M1938 63 4 = v1936 := ((fr1938 63 4 rfl).trans v1936e)
                                have hk1999 : M1938 63 9 = v1947 := v1947e
                                exact s_iret kx_197_478 (Or.inr ⟨kq_197, by omega⟩) ⟨_, _, rfl, rfl, hI1938, hFm1938, ⟨by omega, by omega, (LXp.fr (LXp.fr hX fr2 rfl) fr1938 rfl), (by omega), (by omega), ⟨(Or.inl (by omega)), (KP.fr (KP.fr (KP.refl (M := M)) fr2 (fun _ => rfl)) fr1938 (fun _ => rfl))⟩⟩⟩
                          · refine s_iload_n kx_197_446 rfl ?_
                            refine s_bipush (v := 6) kx_197_447 (by decide) ?_
                            refine s_icmp_ne (t := 518) kx_197_449 (by decide) (fun hc2000 => ?_) (fun hc2000 => ?_)
                            · refine s_aload_n kx_197_518 rfl ?_
                              refine s_iload_n kx_197_519 rfl ?_
                              refine s_iconst (v := 5) kx_197_520 (by decide) ?_
                              have jn2005 : ∀ (y2004 : Int), (41 ≤ y2004) → (y2004 ≤ 93) → cP k_P xs Ln (d + 2) 197 531 [(0, rf 63), (1, (0, (v13 - 1))), (2, (0, v14))] [(0, y2004), rf 63] (T, M2) (qW T M fS_197_m 0 (fun v M1 => 0 ≤ v ∧ v ≤ 1 ∧ (LXp M1 ∧ M 63 4 ≤ M1 63 4 ∧ M 63 9 ≤ M1 63 9 ∧ (GOd M M1 c a v ∧ KP M M1)))) := by
                                intro y2004 a2006 a2007
                                refine s_callV2 (k := 63) (s1 := 2) (s2 := 0) (as := [(0, y2004)]) (rest := []) kx_197_531 kp_197_283 (Or.inl rfl) rfl (tk_63 hT) ki_181 kcl_181 rfl rfl (by decide) (m_181 (d := d + 1) (c := y2004) hT hI2) (kF (fun v2008 v2008p => ?_))
                                refine s_if_ne (t := 546) kx_197_534 (by decide) (fun hc2009 => ?_) (fun hc2009 => ?_)
                                · replace v2008p := v2008p.resolve_right (by omega)
                                  refine s_aload_n kx_197_546 rfl ?_
                                  refine r_getK (k := 63) (f := 9) kx_197_547 kp_197_39 (tk_63 hT) kf_12_9 (fun _ => rfl) v11e ?_
                                  refine s_if_le (t := 555) kx_197_550 (by decide) (fun hc2010 => ?_) (fun hc2010 => absurd hc2010 (by omega))
                                  refine s_aload_n kx_197_555 rfl ?_
                                  refine s_iconst (v := 1) kx_197_556 (by decide) ?_
                                  refine s_callV2 (k := 63) (s1 := 2) (s2 := 0) (as := [(0, 1)]) (rest := []) kx_197_557 kp_197_370 (Or.inl rfl) rfl (tk_63 hT) ki_191 kcl_191 rfl rfl (by decide) (m_191 (d := d) (least := 1) hT hI2 (PI.fr hP fr2 rfl) (by omega) (by omega) (by omega)) (kV (fun M2012 hI2012 fr2012 v2011p => ?_))
                                  have hFm2012 := hFm2.call fr2012 rfl
                                  have tr2013 := (fr2012 63 3 rfl)
                                  have tr2014 := (fr2012 63 4 rfl)
                                  have tr2015 := (fr2012 63 5 rfl)
                                  have tr2016 := (fr2012 63 9 rfl)
                                  have tr2017 := (fr2012 63 42 rfl)
                                  have tr2018 := rg_63_9 hI2012
                                  have hd2019 := PI.deep v2011p.1
                                  have hs2020 := PI.small v2011p.1 (rg_63_43 hI2012).2 (by decide)
                                  have hs2020a := hs2020.1
                                  have hs2020b := hs2020.2.1
                                  have hs2020c := rg_63_45 hI2012
                                  have hK2021 := KP.trans (KP.fr (KP.refl (M := M)) fr2 (fun _ => rfl)) (fr2 63 36 rfl) v2011p.2
                                  refine s_aload_n kx_197_560 rfl ?_
                                  refine s_dup kx_197_561 rfl ?_
                                  refine r_getK (k := 63) (f := 42) kx_197_562 kp_197_140 (tk_63 hT) kf_12_42 (fun _ => rfl) ((fr2012 63 42 rfl).trans v13e) ?_
                                  refine s_iconst (v := 1) kx_197_565 (by decide) ?_
                                  refine r_sub kx_197_566 ⟨by omega, by omega⟩ ?_
                                  refine r_put (k := 63) (f := 42) kx_197_567 kp_197_140 (tk_63 hT) kf_12_42 rfl (by decide) (by decide) hI2012 (ru_63_42 (by omega) (by omega)) (fun M2022 hI2022 u2022 => ?_)
                                  have hFm2022 := hFm2012.up u2022 rfl
                                  have tr2023 := (u2022.2 63 3 (by omega))
                                  have tr2024 := (u2022.2 63 4 (by omega))
                                  have tr2025 := (u2022.2 63 5 (by omega))
                                  have tr2026 := (u2022.2 63 9 (by omega))
                                  have tr2027 := (u2022.2 63 35 (by omega))
                                  have tr2028 := u2022.1
                                  have tr2029 := (u2022.2 63 43 (by omega))
                                  have tr2030 := (u2022.2 63 45 (by omega))
                                  have hcl2031 := PI.close v2011p.1 (by decide) (f := (v13 - 1)) (by omega) ((fr2012 85 _ rfl).trans v14e) (by omega) u2022 (by omega)
                                  have hcl2031d := hcl2031.2.2.1
                                  have hcl2031q := PI.deep hcl2031.1
                                  refine s_aload_n kx_197_570 rfl ?_
                                  refine s_dup kx_197_571 rfl ?_
                                  refine r_getI (k := 63) (f := 43) kx_197_572 kp_197_143 (tk_63 hT) kf_12_43 (fun _ => rfl) (rg_63_43 hI2022) (fun v2032 v2032e v2032a v2032b => ?_)
                                  refine s_iconst (v := 1) kx_197_575 (by decide) ?_
                                  refine r_sub kx_197_576 ⟨by omega, by omega⟩ ?_
                                  have hcl2031e := PI.e_le hcl2031.1
                                  refine r_put (k := 63) (f := 43) kx_197_577 kp_197_143 (tk_63 hT) kf_12_43 rfl (by decide) (by decide) hI2022 (ru_63_43 (by omega) (by omega)) (fun M2033 hI2033 u2033 => ?_)
                                  have hFm2033 := hFm2022.up u2033 rfl
                                  have tr2034 := (u2033.2 63 3 (by omega))
                                  have tr2035 := (u2033.2 63 4 (by omega))
                                  have tr2036 := (u2033.2 63 5 (by omega))
                                  have tr2037 := (u2033.2 63 9 (by omega))
                                  have tr2038 := (u2033.2 63 35 (by omega))
                                  have tr2039 := (u2033.2 63 42 (by omega))
                                  have tr2040 := u2033.1
                                  have tr2041 := (u2033.2 63 45 (by omega))
                                  have hP2042 := (PI.opn (e' := 0) hcl2031.1 u2033 (by omega))
                                  refine s_iload_n kx_197_580 rfl ?_
                                  refine s_iconst (v := 4) kx_197_581 (by decide) ?_
                                  refine s_icmp_ne (t := 596) kx_197_582 (by decide) (fun hc2043 => ?_) (fun hc2043 => ?_)
                                  · have hP2044 := PI.comp0 hP2042 (by omega)
                                    refine s_iload_n kx_197_596 rfl ?_
                                    refine s_iconst (v := 5) kx_197_597 (by decide) ?_
                                    refine s_icmp_ne (t := 613) kx_197_598 (by decide) (fun hc2045 => ?_) (fun hc2045 => ?_)
                                    · refine s_aload_n kx_197_613 rfl ?_
                                      refine s_callV2 (k := 63) (s1 := 1) (s2 := 0) (as := []) (rest := []) kx_197_614 kp_197_286 (Or.inl rfl) rfl (tk_63 hT) ki_180 kcl_180 rfl rfl (by decide) (m_180 (d := d) hT hI2033) (kV (fun M2047 hI2047 fr2047 v2046p => ?_))
                                      have hFm2047 := hFm2033.call fr2047 rfl
                                      have tr2048 := (fr2047 63 9 rfl)
                                      have tr2049 := (fr2047 63 35 rfl)
                                      have tr2050 := (fr2047 63 42 rfl)
                                      have tr2051 := (fr2047 63 43 rfl)
                                      have tr2052 := (fr2047 63 45 rfl)
                                      have tr2053 := rg_63_9 hI2047
                                      refine s_iconst (v := 1) kx_197_617 (by decide) ?_
                                      have hk2054 : M2047 63 9 = v11 := ((fr2047 63 9 rfl).trans ((u2033.2 63 9 (by omega)).trans ((u2022.2 63 9 (by omega)).trans ((fr2012 63 9 rfl).trans v11e))))
                                      exact s_iret kx_197_618 (Or.inr ⟨kq_197, by omega⟩) ⟨_, _, rfl, rfl, hI2047, hFm2047, ⟨by omega, by omega, (show LXp M2047 from v2046p.2), (by omega), (by omega), ⟨(Or.inr (Or.inr ⟨rfl, by omega, Or.inr ⟨((fr2047 63 46 rfl).trans ((u2033.2 63 46 (by omega)).trans ((u2022.2 63 46 (by omega)).trans ((fr2012 63 46 rfl).trans (fr2 63 46 rfl))))), (B0.fr (B0.up (show B0 M2022 from hcl2031.2.1) u2033 (by decide)) fr2047 rfl (fun _ => rfl)), PI.to7 (PI.fr hP2044 fr2047 rfl) (by omega)⟩⟩)), (KP.fr (KP.up (KP.up hK2021 u2022 (by decide)) u2033 (by decide)) fr2047 (fun _ => rfl))⟩⟩⟩
                                    · refine s_aload_n kx_197_601 rfl ?_
                                      refine r_getR (k := 63) (f := 38) (k2 := 86) kx_197_602 kp_197_127 (tk_63 hT) kf_12_38 (by decide) (rq_63_38 hI2033) ?_
                                      refine s_aload_n kx_197_605 rfl ?_
                                      refine r_getK (k := 63) (f := 42) kx_197_606 kp_197_140 (tk_63 hT) kf_12_42 (fun _ => rfl) ((u2033.2 63 42 (by omega)).trans u2022.1) ?_
                                      refine s_iconst (v := 1) kx_197_609 (by decide) ?_
                                      refine r_sub kx_197_610 ⟨by omega, by omega⟩ ?_
                                      refine s_iconst (v := 2) kx_197_611 (by decide) ?_
                                      refine r_ast (k := 86) kx_197_612 (tk_86 hT) ⟨by omega, by omega⟩ hI2033 (ru_86 (by omega) (by omega)) (fun M2055 hI2055 u2055 => ?_)
                                      have hFm2055 := hFm2033.up u2055 rfl
                                      have tr2056 := (u2055.2 63 3 (by omega))
                                      have tr2057 := (u2055.2 63 4 (by omega))
                                      have tr2058 := (u2055.2 63 5 (by omega))
                                      have tr2059 := (u2055.2 63 9 (by omega))
                                      have tr2060 := (u2055.2 63 35 (by omega))
                                      have tr2061 := (u2055.2 63 42 (by omega))
                                      have tr2062 := (u2055.2 63 43 (by omega))
                                      have tr2063 := (u2055.2 63 45 (by omega))
                                      refine s_aload_n kx_197_613 rfl ?_
                                      refine s_callV2 (k := 63) (s1 := 1) (s2 := 0) (as := []) (rest := []) kx_197_614 kp_197_286 (Or.inl rfl) rfl (tk_63 hT) ki_180 kcl_180 rfl rfl (by decide) (m_180 (d := d) hT hI2055) (kV (fun M2065 hI2065 fr2065 v2064p => ?_))
                                      have hFm2065 := hFm2055.call fr2065 rfl
                                      have tr2066 := (fr2065 63 9 rfl)
                                      have tr2067 := (fr2065 63 35 rfl)
                                      have tr2068 := (fr2065 63 42 rfl)
                                      have tr2069 := (fr2065 63 43 rfl)
                                      have tr2070 := (fr2065 63 45 rfl)
                                      have tr2071 := rg_63_9 hI2065
                                      refine s_iconst (v := 1) kx_197_617 (by decide) ?_
                                      have hk2072 : M2065 63 9 = v11 := ((fr2065 63 9 rfl).trans ((u2055.2 63 9 (by omega)).trans ((u2033.2 63 9 (by omega)).trans ((u2022.2 63 9 (by omega)).trans ((fr2012 63 9 rfl).trans v11e)))))
                                      exact s_iret kx_197_618 (Or.inr ⟨kq_197, by omega⟩) ⟨_, _, rfl, rfl, hI2065, hFm2065, ⟨by omega, by omega, (show LXp M2065 from v2064p.2), (by omega), (by omega), ⟨(Or.inr (Or.inr ⟨rfl, by omega, Or.inr ⟨((fr2065 63 46 rfl).trans ((u2055.2 63 46 (by omega)).trans ((u2033.2 63 46 (by omega)).trans ((u2022.2 63 46 (by omega)).trans ((fr2012 63 46 rfl).trans (fr2 63 46 rfl)))))), (B0.fr (B0.up (B0.up (show B0 M2022 from hcl2031.2.1) u2033 (by decide)) u2055 ⟨by decide, Or.inl (by decide)⟩) fr2065 rfl (fun _ => rfl)), PI.to7 (PI.fr (PI.phase hP2044 (Or.inl (by decide)) (by omega) u2055) fr2065 rfl) (by omega)⟩⟩)), (KP.fr (KP.up (KP.up (KP.up hK2021 u2022 (by decide)) u2033 (by decide)) u2055 (by decide)) fr2065 (fun _ => rfl))⟩⟩⟩
                                  · refine s_aload_n kx_197_585 rfl ?_
                                    refine s_aload_n kx_197_586 rfl ?_
                                    refine r_getR (k := 63) (f := 40) (k2 := 88) kx_197_587 kp_197_134 (tk_63 hT) kf_12_40 (by decide) (rq_63_40 hI2033) ?_
                                    refine s_iload_n kx_197_590 rfl ?_
                                    refine r_ald (k := 88) kx_197_591 (tk_88 hT) ⟨by omega, by omega⟩ (rg_88 hI2033) (fun v2073 v2073e v2073a v2073b => ?_)
                                    have hpr2074 : v2073 = M2012 88 ((v13 - 1)).toNat := (v2073e).symm.trans ((u2033.2 88 _ (by omega)).trans (u2022.2 88 _ (by omega)))
                                    refine s_iconst (v := 0) kx_197_592 (by decide) ?_
                                    refine s_callV2 (k := 63) (s1 := 3) (s2 := 0) (as := [(0, 0), (0, v2073)]) (rest := []) kx_197_593 kp_197_352 (Or.inl rfl) rfl (tk_63 hT) ki_189 kcl_189 rfl rfl (by decide) (m_189 (d := d + 1) (sort := v2073) (v_ := 0) hT hI2033 (by omega) (by omega)) (kV (fun M2076 hI2076 fr2076 v2075p => ?_))
                                    have hFm2076 := hFm2033.call fr2076 rfl
                                    have tr2077 := (fr2076 63 3 rfl)
                                    have tr2078 := (fr2076 63 4 rfl)
                                    have tr2079 := (fr2076 63 5 rfl)
                                    have tr2080 := (fr2076 63 9 rfl)
                                    have tr2081 := (fr2076 63 42 rfl)
                                    have tr2082 := (fr2076 63 43 rfl)
                                    have tr2083 := (fr2076 63 45 rfl)
                                    have tr2084 := rg_63_9 hI2076
                                    have hP2085 := PI.code4 hP2042 (by omega) (hcl2031.2.2.2 (by omega)) fr2076 v2075p.1 (v2075p.2.1.trans hpr2074) v2075p.2.2
                                    have hK2086 := KP.add (KP.up (KP.up hK2021 u2022 (by decide)) u2033 (by decide)) ((u2033.2 63 36 (by omega)).trans ((u2022.2 63 36 (by omega)).trans ((fr2012 63 36 rfl).trans (fr2 63 36 rfl)))) ⟨(rg_63_35 hI2033).1, by omega⟩ (rg_63_36 hI2033).1 v2075p.2.2
                                    refine s_iload_n kx_197_596 rfl ?_
                                    refine s_iconst (v := 5) kx_197_597 (by decide) ?_
                                    refine s_icmp_ne (t := 613) kx_197_598 (by decide) (fun hc2087 => ?_) (fun hc2087 => absurd hc2087 (by omega))
                                    refine s_aload_n kx_197_613 rfl ?_
                                    refine s_callV2 (k := 63) (s1 := 1) (s2 := 0) (as := []) (rest := []) kx_197_614 kp_197_286 (Or.inl rfl) rfl (tk_63 hT) ki_180 kcl_180 rfl rfl (by decide) (m_180 (d := d) hT hI2076) (kV (fun M2089 hI2089 fr2089 v2088p => ?_))
                                    have hFm2089 := hFm2076.call fr2089 rfl
                                    have tr2090 := (fr2089 63 9 rfl)
                                    have tr2091 := (fr2089 63 35 rfl)
                                    have tr2092 := (fr2089 63 42 rfl)
                                    have tr2093 := (fr2089 63 43 rfl)
                                    have tr2094 := (fr2089 63 45 rfl)
                                    have tr2095 := rg_63_9 hI2089
                                    refine s_iconst (v := 1) kx_197_617 (by decide) ?_
                                    have hk2096 : M2089 63 9 = v11 := ((fr2089 63 9 rfl).trans ((fr2076 63 9 rfl).trans ((u2033.2 63 9 (by omega)).trans ((u2022.2 63 9 (by omega)).trans ((fr2012 63 9 rfl).trans v11e)))))
                                    exact s_iret kx_197_618 (Or.inr ⟨kq_197, by omega⟩) ⟨_, _, rfl, rfl, hI2089, hFm2089, ⟨by omega, by omega, (show LXp M2089 from v2088p.2), (by omega), (by omega), ⟨(Or.inr (Or.inr ⟨rfl, by omega, Or.inr ⟨((fr2089 63 46 rfl).trans ((fr2076 63 46 rfl).trans ((u2033.2 63 46 (by omega)).trans ((u2022.2 63 46 (by omega)).trans ((fr2012 63 46 rfl).trans (fr2 63 46 rfl)))))), (B0.fr (B0.fr (B0.up (show B0 M2022 from hcl2031.2.1) u2033 (by decide)) fr2076 rfl (fun _ => rfl)) fr2089 rfl (fun _ => rfl)), PI.to7 (PI.fr hP2085 fr2089 rfl) (by omega)⟩⟩)), (KP.fr hK2086 fr2089 (fun _ => rfl))⟩⟩⟩
                                · replace v2008p := v2008p.resolve_left (by omega)
                                  refine s_aload_n kx_197_537 rfl ?_
                                  refine s_iconst (v := 1) kx_197_538 (by decide) ?_
                                  refine s_aload_n kx_197_539 rfl ?_
                                  refine r_getI (k := 63) (f := 4) kx_197_540 kp_197_23 (tk_63 hT) kf_12_4 (fun _ => rfl) (rg_63_4 hI2) (fun v2097 v2097e v2097a v2097b => ?_)
                                  have v2097z : M 63 4 = v2097 := ((fr2 63 4 rfl)).symm.trans v2097e
                                  refine s_callV2 (k := 63) (s1 := 3) (s2 := 0) (as := [(0, v2097), (0, 1)]) (rest := []) kx_197_543 kp_197_263 (Or.inl rfl) rfl (tk_63 hT) ki_176 kcl_176 rfl rfl (by decide) (m_176 (d := d + 1) (kind := 1) (place := v2097) hT hI2 (by omega)) (kV (fun M2099 hI2099 fr2099 v2098p => ?_))
                                  have hFm2099 := hFm2.call fr2099 rfl
                                  have tr2100 := (fr2099 63 3 rfl)
                                  have tr2101 := (fr2099 63 4 rfl)
                                  have tr2102 := (fr2099 63 5 rfl)
                                  have tr2103 := (fr2099 63 35 rfl)
                                  have tr2104 := (fr2099 63 42 rfl)
                                  have tr2105 := (fr2099 63 43 rfl)
                                  have tr2106 := (fr2099 63 45 rfl)
                                  have tr2107 := rg_63_9 hI2099
                                  refine s_aload_n kx_197_546 rfl ?_
                                  refine r_getI (k := 63) (f := 9) kx_197_547 kp_197_39 (tk_63 hT) kf_12_9 (fun _ => rfl) (rg_63_9 hI2099) (fun v2108 v2108e v2108a v2108b => ?_)
                                  refine s_if_le (t := 555) kx_197_550 (by decide) (fun hc2109 => ?_) (fun hc2109 => ?_)
                                  · refine s_aload_n kx_197_555 rfl ?_
                                    refine s_iconst (v := 1) kx_197_556 (by decide) ?_
                                    refine s_callV2 (k := 63) (s1 := 2) (s2 := 0) (as := [(0, 1)]) (rest := []) kx_197_557 kp_197_370 (Or.inl rfl) rfl (tk_63 hT) ki_191 kcl_191 rfl rfl (by decide) (m_191 (d := d) (least := 1) hT hI2099 (PI.fr (PI.fr hP fr2 rfl) fr2099 rfl) (by omega) (by omega) (by omega)) (kV (fun M2111 hI2111 fr2111 v2110p => ?_))
                                    have hFm2111 := hFm2099.call fr2111 rfl
                                    have tr2112 := (fr2111 63 3 rfl)
                                    have tr2113 := (fr2111 63 4 rfl)
                                    have tr2114 := (fr2111 63 5 rfl)
                                    have tr2115 := (fr2111 63 9 rfl)
                                    have tr2116 := (fr2111 63 42 rfl)
                                    have tr2117 := rg_63_9 hI2111
                                    have hd2118 := PI.deep v2110p.1
                                    have hs2119 := PI.small v2110p.1 (rg_63_43 hI2111).2 (by decide)
                                    have hs2119a := hs2119.1
                                    have hs2119b := hs2119.2.1
                                    have hs2119c := rg_63_45 hI2111
                                    have hK2120 := KP.trans (KP.fr (KP.fr (KP.refl (M := M)) fr2 (fun _ => rfl)) fr2099 (fun _ => rfl)) ((fr2099 63 36 rfl).trans (fr2 63 36 rfl)) v2110p.2
                                    refine s_aload_n kx_197_560 rfl ?_
                                    refine s_dup kx_197_561 rfl ?_
                                    refine r_getK (k := 63) (f := 42) kx_197_562 kp_197_140 (tk_63 hT) kf_12_42 (fun _ => rfl) ((fr2111 63 42 rfl).trans ((fr2099 63 42 rfl).trans v13e)) ?_
                                    refine s_iconst (v := 1) kx_197_565 (by decide) ?_
                                    refine r_sub kx_197_566 ⟨by omega, by omega⟩ ?_
                                    refine r_put (k := 63) (f := 42) kx_197_567 kp_197_140 (tk_63 hT) kf_12_42 rfl (by decide) (by decide) hI2111 (ru_63_42 (by omega) (by omega)) (fun M2121 hI2121 u2121 => ?_)
                                    have hFm2121 := hFm2111.up u2121 rfl
                                    have tr2122 := (u2121.2 63 3 (by omega))
                                    have tr2123 := (u2121.2 63 4 (by omega))
                                    have tr2124 := (u2121.2 63 5 (by omega))
                                    have tr2125 := (u2121.2 63 9 (by omega))
                                    have tr2126 := (u2121.2 63 35 (by omega))
                                    have tr2127 := u2121.1
                                    have tr2128 := (u2121.2 63 43 (by omega))
                                    have tr2129 := (u2121.2 63 45 (by omega))
                                    have hcl2130 := PI.close v2110p.1 (by decide) (f := (v13 - 1)) (by omega) ((fr2111 85 _ rfl).trans ((fr2099 85 _ rfl).trans v14e)) (by omega) u2121 (by omega)
                                    have hcl2130d := hcl2130.2.2.1
                                    have hcl2130q := PI.deep hcl2130.1
                                    refine s_aload_n kx_197_570 rfl ?_
                                    refine s_dup kx_197_571 rfl ?_
                                    refine r_getI (k := 63) (f := 43) kx_197_572 kp_197_143 (tk_63 hT) kf_12_43 (fun _ => rfl) (rg_63_43 hI2121) (fun v2131 v2131e v2131a v2131b => ?_)
                                    refine s_iconst (v := 1) kx_197_575 (by decide) ?_
                                    refine r_sub kx_197_576 ⟨by omega, by omega⟩ ?_
                                    have hcl2130e := PI.e_le hcl2130.1
                                    refine r_put (k := 63) (f := 43) kx_197_577 kp_197_143 (tk_63 hT) kf_12_43 rfl (by decide) (by decide) hI2121 (ru_63_43 (by omega) (by omega)) (fun M2132 hI2132 u2132 => ?_)
                                    have hFm2132 := hFm2121.up u2132 rfl
                                    have tr2133 := (u2132.2 63 3 (by omega))
                                    have tr2134 := (u2132.2 63 4 (by omega))
                                    have tr2135 := (u2132.2 63 5 (by omega))
                                    have tr2136 := (u2132.2 63 9 (by omega))
                                    have tr2137 := (u2132.2 63 35 (by omega))
                                    have tr2138 := (u2132.2 63 42 (by omega))
                                    have tr2139 := u2132.1
                                    have tr2140 := (u2132.2 63 45 (by omega))
                                    have hP2141 := (PI.opn (e' := 0) hcl2130.1 u2132 (by omega))
                                    refine s_iload_n kx_197_580 rfl ?_
                                    refine s_iconst (v := 4) kx_197_581 (by decide) ?_
                                    refine s_icmp_ne (t := 596) kx_197_582 (by decide) (fun hc2142 => ?_) (fun hc2142 => ?_)
                                    · have hP2143 := PI.comp0 hP2141 (by omega)
                                      refine s_iload_n kx_197_596 rfl ?_
                                      refine s_iconst (v := 5) kx_197_597 (by decide) ?_
                                      refine s_icmp_ne (t := 613) kx_197_598 (by decide) (fun hc2144 => ?_) (fun hc2144 => ?_)
                                      · refine s_aload_n kx_197_613 rfl ?_
                                        refine s_callV2 (k := 63) (s1 := 1) (s2 := 0) (as := []) (rest := []) kx_197_614 kp_197_286 (Or.inl rfl) rfl (tk_63 hT) ki_180 kcl_180 rfl rfl (by decide) (m_180 (d := d) hT hI2132) (kV (fun M2146 hI2146 fr2146 v2145p => ?_))
                                        have hFm2146 := hFm2132.call fr2146 rfl
                                        have tr2147 := (fr2146 63 9 rfl)
                                        have tr2148 := (fr2146 63 35 rfl)
                                        have tr2149 := (fr2146 63 42 rfl)
                                        have tr2150 := (fr2146 63 43 rfl)
                                        have tr2151 := (fr2146 63 45 rfl)
                                        have tr2152 := rg_63_9 hI2146
                                        refine s_iconst (v := 1) kx_197_617 (by decide) ?_
                                        have hk2153 : M2146 63 9 = v2108 := ((fr2146 63 9 rfl).trans ((u2132.2 63 9 (by omega)).trans ((u2121.2 63 9 (by omega)).trans ((fr2111 63 9 rfl).trans v2108e))))
                                        exact s_iret kx_197_618 (Or.inr ⟨kq_197, by omega⟩) ⟨_, _, rfl, rfl, hI2146, hFm2146, ⟨by omega, by omega, (show LXp M2146 from v2145p.2), (by omega), (by omega), ⟨(Or.inr (Or.inr ⟨rfl, by omega, Or.inr ⟨((fr2146 63 46 rfl).trans ((u2132.2 63 46 (by omega)).trans ((u2121.2 63 46 (by omega)).trans ((fr2111 63 46 rfl).trans ((fr2099 63 46 rfl).trans (fr2 63 46 rfl)))))), (B0.fr (B0.up (show B0 M2121 from hcl2130.2.1) u2132 (by decide)) fr2146 rfl (fun _ => rfl)), PI.to7 (PI.fr hP2143 fr2146 rfl) (by omega)⟩⟩)), (KP.fr (KP.up (KP.up hK2120 u2121 (by decide)) u2132 (by decide)) fr2146 (fun _ => rfl))⟩⟩⟩
                                      · refine s_aload_n kx_197_601 rfl ?_
                                        refine r_getR (k := 63) (f := 38) (k2 := 86) kx_197_602 kp_197_127 (tk_63 hT) kf_12_38 (by decide) (rq_63_38 hI2132) ?_
                                        refine s_aload_n kx_197_605 rfl ?_
                                        refine r_getK (k := 63) (f := 42) kx_197_606 kp_197_140 (tk_63 hT) kf_12_42 (fun _ => rfl) ((u2132.2 63 42 (by omega)).trans u2121.1) ?_
                                        refine s_iconst (v := 1) kx_197_609 (by decide) ?_
                                        refine r_sub kx_197_610 ⟨by omega, by omega⟩ ?_
                                        refine s_iconst (v := 2) kx_197_611 (by decide) ?_
                                        refine r_ast (k := 86) kx_197_612 (tk_86 hT) ⟨by omega, by omega⟩ hI2132 (ru_86 (by omega) (by omega)) (fun M2154 hI2154 u2154 => ?_)
                                        have hFm2154 := hFm2132.up u2154 rfl
                                        have tr2155 := (u2154.2 63 3 (by omega))
                                        have tr2156 := (u2154.2 63 4 (by omega))
                                        have tr2157 := (u2154.2 63 5 (by omega))
                                        have tr2158 := (u2154.2 63 9 (by omega))
                                        have tr2159 := (u2154.2 63 35 (by omega))
                                        have tr2160 := (u2154.2 63 42 (by omega))
                                        have tr2161 := (u2154.2 63 43 (by omega))
                                        have tr2162 := (u2154.2 63 45 (by omega))
                                        refine s_aload_n kx_197_613 rfl ?_
                                        refine s_callV2 (k := 63) (s1 := 1) (s2 := 0) (as := []) (rest := []) kx_197_614 kp_197_286 (Or.inl rfl) rfl (tk_63 hT) ki_180 kcl_180 rfl rfl (by decide) (m_180 (d := d) hT hI2154) (kV (fun M2164 hI2164 fr2164 v2163p => ?_))
                                        have hFm2164 := hFm2154.call fr2164 rfl
                                        have tr2165 := (fr2164 63 9 rfl)
                                        have tr2166 := (fr2164 63 35 rfl)
                                        have tr2167 := (fr2164 63 42 rfl)
                                        have tr2168 := (fr2164 63 43 rfl)
                                        have tr2169 := (fr2164 63 45 rfl)
                                        have tr2170 := rg_63_9 hI2164
                                        refine s_iconst (v := 1) kx_197_617 (by decide) ?_
                                        have hk2171 : M2164 63 9 = v2108 := ((fr2164 63 9 rfl).trans ((u2154.2 63 9 (by omega)).trans ((u2132.2 63 9 (by omega)).trans ((u2121.2 63 9 (by omega)).trans ((fr2111 63 9 rfl).trans v2108e)))))
                                        exact s_iret kx_197_618 (Or.inr ⟨kq_197, by omega⟩) ⟨_, _, rfl, rfl, hI2164, hFm2164, ⟨by omega, by omega, (show LXp M2164 from v2163p.2), (by omega), (by omega), ⟨(Or.inr (Or.inr ⟨rfl, by omega, Or.inr ⟨((fr2164 63 46 rfl).trans ((u2154.2 63 46 (by omega)).trans ((u2132.2 63 46 (by omega)).trans ((u2121.2 63 46 (by omega)).trans ((fr2111 63 46 rfl).trans ((fr2099 63 46 rfl).trans (fr2 63 46 rfl))))))), (B0.fr (B0.up (B0.up (show B0 M2121 from hcl2130.2.1) u2132 (by decide)) u2154 ⟨by decide, Or.inl (by decide)⟩) fr2164 rfl (fun _ => rfl)), PI.to7 (PI.fr (PI.phase hP2143 (Or.inl (by decide)) (by omega) u2154) fr2164 rfl) (by omega)⟩⟩)), (KP.fr (KP.up (KP.up (KP.up hK2120 u2121 (by decide)) u2132 (by decide)) u2154 (by decide)) fr2164 (fun _ => rfl))⟩⟩⟩
                                    · refine s_aload_n kx_197_585 rfl ?_
                                      refine s_aload_n kx_197_586 rfl ?_
                                      refine r_getR (k := 63) (f := 40) (k2 := 88) kx_197_587 kp_197_134 (tk_63 hT) kf_12_40 (by decide) (rq_63_40 hI2132) ?_
                                      refine s_iload_n kx_197_590 rfl ?_
                                      refine r_ald (k := 88) kx_197_591 (tk_88 hT) ⟨by omega, by omega⟩ (rg_88 hI2132) (fun v2172 v2172e v2172a v2172b => ?_)
                                      have hpr2173 : v2172 = M2111 88 ((v13 - 1)).toNat := (v2172e).symm.trans ((u2132.2 88 _ (by omega)).trans (u2121.2 88 _ (by omega)))
                                      refine s_iconst (v := 0) kx_197_592 (by decide) ?_
                                      refine s_callV2 (k := 63) (s1 := 3) (s2 := 0) (as := [(0, 0), (0, v2172)]) (rest := []) kx_197_593 kp_197_352 (Or.inl rfl) rfl (tk_63 hT) ki_189 kcl_189 rfl rfl (by decide) (m_189 (d := d + 1) (sort := v2172) (v_ := 0) hT hI2132 (by omega) (by omega)) (kV (fun M2175 hI2175 fr2175 v2174p => ?_))
                                      have hFm2175 := hFm2132.call fr2175 rfl
                                      have tr2176 := (fr2175 63 3 rfl)
                                      have tr2177 := (fr2175 63 4 rfl)
                                      have tr2178 := (fr2175 63 5 rfl)
                                      have tr2179 := (fr2175 63 9 rfl)
                                      have tr2180 := (fr2175 63 42 rfl)
                                      have tr2181 := (fr2175 63 43 rfl)
                                      have tr2182 := (fr2175 63 45 rfl)
                                      have tr2183 := rg_63_9 hI2175
                                      have hP2184 := PI.code4 hP2141 (by omega) (hcl2130.2.2.2 (by omega)) fr2175 v2174p.1 (v2174p.2.1.trans hpr2173) v2174p.2.2
                                      have hK2185 := KP.add (KP.up (KP.up hK2120 u2121 (by decide)) u2132 (by decide)) ((u2132.2 63 36 (by omega)).trans ((u2121.2 63 36 (by omega)).trans ((fr2111 63 36 rfl).trans ((fr2099 63 36 rfl).trans (fr2 63 36 rfl))))) ⟨(rg_63_35 hI2132).1, by omega⟩ (rg_63_36 hI2132).1 v2174p.2.2
                                      refine s_iload_n kx_197_596 rfl ?_
                                      refine s_iconst (v := 5) kx_197_597 (by decide) ?_
                                      refine s_icmp_ne (t := 613) kx_197_598 (by decide) (fun hc2186 => ?_) (fun hc2186 => absurd hc2186 (by omega))
                                      refine s_aload_n kx_197_613 rfl ?_
                                      refine s_callV2 (k := 63) (s1 := 1) (s2 := 0) (as := []) (rest := []) kx_197_614 kp_197_286 (Or.inl rfl) rfl (tk_63 hT) ki_180 kcl_180 rfl rfl (by decide) (m_180 (d := d) hT hI2175) (kV (fun M2188 hI2188 fr2188 v2187p => ?_))
                                      have hFm2188 := hFm2175.call fr2188 rfl
                                      have tr2189 := (fr2188 63 9 rfl)
                                      have tr2190 := (fr2188 63 35 rfl)
                                      have tr2191 := (fr2188 63 42 rfl)
                                      have tr2192 := (fr2188 63 43 rfl)
                                      have tr2193 := (fr2188 63 45 rfl)
                                      have tr2194 := rg_63_9 hI2188
                                      refine s_iconst (v := 1) kx_197_617 (by decide) ?_
                                      have hk2195 : M2188 63 9 = v2108 := ((fr2188 63 9 rfl).trans ((fr2175 63 9 rfl).trans ((u2132.2 63 9 (by omega)).trans ((u2121.2 63 9 (by omega)).trans ((fr2111 63 9 rfl).trans v2108e)))))
                                      exact s_iret kx_197_618 (Or.inr ⟨kq_197, by omega⟩) ⟨_, _, rfl, rfl, hI2188, hFm2188, ⟨by omega, by omega, (show LXp M2188 from v2187p.2), (by omega), (by omega), ⟨(Or.inr (Or.inr ⟨rfl, by omega, Or.inr ⟨((fr2188 63 46 rfl).trans ((fr2175 63 46 rfl).trans ((u2132.2 63 46 (by omega)).trans ((u2121.2 63 46 (by omega)).trans ((fr2111 63 46 rfl).trans ((fr2099 63 46 rfl).trans (fr2 63 46 rfl))))))), (B0.fr (B0.fr (B0.up (show B0 M2121 from hcl2130.2.1) u2132 (by decide)) fr2175 rfl (fun _ => rfl)) fr2188 rfl (fun _ => rfl)), PI.to7 (PI.fr hP2184 fr2188 rfl) (by omega)⟩⟩)), (KP.fr hK2185 fr2188 (fun _ => rfl))⟩⟩⟩
                                  · refine s_iconst (v := 0) kx_197_553 (by decide) ?_
                                    have hk2196 : M2099 63 4 = v2097 := ((fr2099 63 4 rfl).trans v2097e)
                                    have hk2197 : M2099 63 9 = v2108 := v2108e
                                    exact s_iret kx_197_554 (Or.inr ⟨kq_197, by omega⟩) ⟨_, _, rfl, rfl, hI2099, hFm2099, ⟨by omega, by omega, (LXp.fr (LXp.fr hX fr2 rfl) fr2099 rfl), (by omega), (by omega), ⟨(Or.inl (by omega)), (KP.fr (KP.fr (KP.refl (M := M)) fr2 (fun _ => rfl)) fr2099 (fun _ => rfl))⟩⟩⟩
                              refine s_icmp_ne (t := 529) kx_197_521 (by decide) (fun hc2001 => ?_) (fun hc2001 => ?_)
                              · have hJ2002 : Fr fS_197_j521 M2 M2 := Fr.refl
                                refine s_bipush (v := 41) kx_197_529 (by decide) ?_
                                exact cP.wk (lS1 rfl (lS1 rfl (lS1 rfl lS0))) (jn2005 41 (by omega) (by omega))
                              · have hJ2003 : Fr fS_197_j521 M2 M2 := Fr.refl
                                refine s_bipush (v := 93) kx_197_524 (by decide) ?_
                                refine s_goto (t := 531) kx_197_526 (by decide) ?_
                                exact cP.wk (lS1 rfl (lS1 rfl (lS1 rfl lS0))) (jn2005 93 (by omega) (by omega))
                            · refine s_aload_n kx_197_452 rfl ?_
                              refine s_bipush (v := 44) kx_197_453 (by decide) ?_
                              refine s_callV2 (k := 63) (s1 := 2) (s2 := 0) (as := [(0, 44)]) (rest := []) kx_197_455 kp_197_283 (Or.inl rfl) rfl (tk_63 hT) ki_181 kcl_181 rfl rfl (by decide) (m_181 (d := d + 1) (c := 44) hT hI2) (kF (fun v2198 v2198p => ?_))
                              refine s_if_ne (t := 470) kx_197_458 (by decide) (fun hc2199 => ?_) (fun hc2199 => ?_)
                              · replace v2198p := v2198p.resolve_right (by omega)
                                refine s_aload_n kx_197_470 rfl ?_
                                refine r_getK (k := 63) (f := 9) kx_197_471 kp_197_39 (tk_63 hT) kf_12_9 (fun _ => rfl) v11e ?_
                                refine s_if_le (t := 479) kx_197_474 (by decide) (fun hc2200 => ?_) (fun hc2200 => absurd hc2200 (by omega))
                                refine s_aload_n kx_197_479 rfl ?_
                                refine s_iconst (v := 1) kx_197_480 (by decide) ?_
                                refine s_callV2 (k := 63) (s1 := 2) (s2 := 0) (as := [(0, 1)]) (rest := []) kx_197_481 kp_197_370 (Or.inl rfl) rfl (tk_63 hT) ki_191 kcl_191 rfl rfl (by decide) (m_191 (d := d) (least := 1) hT hI2 (PI.fr hP fr2 rfl) (by omega) (by omega) (by omega)) (kV (fun M2202 hI2202 fr2202 v2201p => ?_))
                                have hFm2202 := hFm2.call fr2202 rfl
                                have tr2203 := (fr2202 63 3 rfl)
                                have tr2204 := (fr2202 63 4 rfl)
                                have tr2205 := (fr2202 63 5 rfl)
                                have tr2206 := (fr2202 63 9 rfl)
                                have tr2207 := (fr2202 63 42 rfl)
                                have tr2208 := rg_63_9 hI2202
                                have hd2209 := PI.deep v2201p.1
                                have hs2210 := PI.small v2201p.1 (rg_63_43 hI2202).2 (by decide)
                                have hs2210a := hs2210.1
                                have hs2210b := hs2210.2.1
                                have hs2210c := rg_63_45 hI2202
                                have hK2211 := KP.trans (KP.fr (KP.refl (M := M)) fr2 (fun _ => rfl)) (fr2 63 36 rfl) v2201p.2
                                have hk852212 : M2202 85 ((v13 - 1)).toNat = v14 := ((fr2202 85 _ rfl).trans v14e)
                                refine s_aload_n kx_197_484 rfl ?_
                                refine r_getR (k := 63) (f := 37) (k2 := 85) kx_197_485 kp_197_124 (tk_63 hT) kf_12_37 (by decide) (rq_63_37 hI2202) ?_
                                refine s_iload_n kx_197_488 rfl ?_
                                refine s_iload_n kx_197_489 rfl ?_
                                refine s_iconst (v := 3) kx_197_490 (by decide) ?_
                                refine s_icmp_ne (t := 498) kx_197_491 (by decide) (fun hc2213 => ?_) (fun hc2213 => absurd hc2213 (by omega))
                                refine s_iconst (v := 3) kx_197_498 (by decide) ?_
                                refine r_ast (k := 85) kx_197_499 (tk_85 hT) ⟨by omega, by omega⟩ hI2202 (ru_85 (by omega) (by omega)) (fun M2214 hI2214 u2214 => ?_)
                                have hFm2214 := hFm2202.up u2214 rfl
                                have tr2215 := (u2214.2 63 3 (by omega))
                                have tr2216 := (u2214.2 63 4 (by omega))
                                have tr2217 := (u2214.2 63 5 (by omega))
                                have tr2218 := (u2214.2 63 9 (by omega))
                                have tr2219 := (u2214.2 63 35 (by omega))
                                have tr2220 := (u2214.2 63 42 (by omega))
                                have tr2221 := (u2214.2 63 43 (by omega))
                                have tr2222 := (u2214.2 63 45 (by omega))
                                refine s_aload_n kx_197_500 rfl ?_
                                refine r_getR (k := 63) (f := 38) (k2 := 86) kx_197_501 kp_197_127 (tk_63 hT) kf_12_38 (by decide) (rq_63_38 hI2214) ?_
                                refine s_iload_n kx_197_504 rfl ?_
                                refine s_iconst (v := 0) kx_197_505 (by decide) ?_
                                refine r_ast (k := 86) kx_197_506 (tk_86 hT) ⟨by omega, by omega⟩ hI2214 (ru_86 (by omega) (by omega)) (fun M2223 hI2223 u2223 => ?_)
                                have hFm2223 := hFm2214.up u2223 rfl
                                have tr2224 := (u2223.2 63 3 (by omega))
                                have tr2225 := (u2223.2 63 4 (by omega))
                                have tr2226 := (u2223.2 63 5 (by omega))
                                have tr2227 := (u2223.2 63 9 (by omega))
                                have tr2228 := (u2223.2 63 35 (by omega))
                                have tr2229 := (u2223.2 63 42 (by omega))
                                have tr2230 := (u2223.2 63 43 (by omega))
                                have tr2231 := (u2223.2 63 45 (by omega))
                                refine s_aload_n kx_197_507 rfl ?_
                                refine s_callV2 (k := 63) (s1 := 1) (s2 := 0) (as := []) (rest := []) kx_197_508 kp_197_286 (Or.inl rfl) rfl (tk_63 hT) ki_180 kcl_180 rfl rfl (by decide) (m_180 (d := d) hT hI2223) (kV (fun M2233 hI2233 fr2233 v2232p => ?_))
                                have hFm2233 := hFm2223.call fr2233 rfl
                                have tr2234 := (fr2233 63 9 rfl)
                                have tr2235 := (fr2233 63 35 rfl)
                                have tr2236 := (fr2233 63 42 rfl)
                                have tr2237 := (fr2233 63 43 rfl)
                                have tr2238 := (fr2233 63 45 rfl)
                                have tr2239 := rg_63_9 hI2233
                                refine s_aload_n kx_197_511 rfl ?_
                                refine s_iconst (v := 0) kx_197_512 (by decide) ?_
                                refine r_put (k := 63) (f := 46) kx_197_513 kp_197_152 (tk_63 hT) kf_12_46 rfl (by decide) (by decide) hI2233 (ru_63_46 (by omega) (by omega)) (fun M2240 hI2240 u2240 => ?_)
                                have hFm2240 := hFm2233.up u2240 rfl
                                have tr2241 := (u2240.2 63 3 (by omega))
                                have tr2242 := (u2240.2 63 4 (by omega))
                                have tr2243 := (u2240.2 63 5 (by omega))
                                have tr2244 := (u2240.2 63 9 (by omega))
                                have tr2245 := (u2240.2 63 35 (by omega))
                                have tr2246 := (u2240.2 63 42 (by omega))
                                have tr2247 := (u2240.2 63 43 (by omega))
                                have tr2248 := (u2240.2 63 45 (by omega))
                                refine s_iconst (v := 1) kx_197_516 (by decide) ?_
                                have hk2249 : M2240 63 9 = v11 := ((u2240.2 63 9 (by omega)).trans ((fr2233 63 9 rfl).trans ((u2223.2 63 9 (by omega)).trans ((u2214.2 63 9 (by omega)).trans ((fr2202 63 9 rfl).trans v11e)))))
                                exact s_iret kx_197_517 (Or.inr ⟨kq_197, by omega⟩) ⟨_, _, rfl, rfl, hI2240, hFm2240, ⟨by omega, by omega, (LXp.up (show LXp M2233 from v2232p.2) u2240 (by decide)), (by omega), (by omega), ⟨(Or.inr (Or.inr ⟨rfl, by omega, Or.inl ⟨u2240.1, PI.to7 (PI.fr (PI.fr (PI.phase (PI.comma v2201p.1 (by omega) (by omega) u2214) (Or.inr (by omega)) (by omega) u2223) fr2233 rfl) (Up.fr u2240) rfl) (by omega)⟩⟩)), (KP.up (KP.fr (KP.up (KP.up hK2211 u2214 (by decide)) u2223 (by decide)) fr2233 (fun _ => rfl)) u2240 (by decide))⟩⟩⟩
                              · replace v2198p := v2198p.resolve_left (by omega)
                                refine s_aload_n kx_197_461 rfl ?_
                                refine s_iconst (v := 1) kx_197_462 (by decide) ?_
                                refine s_aload_n kx_197_463 rfl ?_
                                refine r_getI (k := 63) (f := 4) kx_197_464 kp_197_23 (tk_63 hT) kf_12_4 (fun _ => rfl) (rg_63_4 hI2) (fun v2250 v2250e v2250a v2250b => ?_)
                                have v2250z : M 63 4 = v2250 := ((fr2 63 4 rfl)).symm.trans v2250e
                                refine s_callV2 (k := 63) (s1 := 3) (s2 := 0) (as := [(0, v2250), (0, 1)]) (rest := []) kx_197_467 kp_197_263 (Or.inl rfl) rfl (tk_63 hT) ki_176 kcl_176 rfl rfl (by decide) (m_176 (d := d + 1) (kind := 1) (place := v2250) hT hI2 (by omega)) (kV (fun M2252 hI2252 fr2252 v2251p => ?_))
                                have hFm2252 := hFm2.call fr2252 rfl
                                have tr2253 := (fr2252 63 3 rfl)
                                have tr2254 := (fr2252 63 4 rfl)
                                have tr2255 := (fr2252 63 5 rfl)
                                have tr2256 := (fr2252 63 35 rfl)
                                have tr2257 := (fr2252 63 42 rfl)
                                have tr2258 := (fr2252 63 43 rfl)
                                have tr2259 := (fr2252 63 45 rfl)
                                have tr2260 := rg_63_9 hI2252
                                refine s_aload_n kx_197_470 rfl ?_
                                refine r_getI (k := 63) (f := 9) kx_197_471 kp_197_39 (tk_63 hT) kf_12_9 (fun _ => rfl) (rg_63_9 hI2252) (fun v2261 v2261e v2261a v2261b => ?_)
                                refine s_if_le (t := 479) kx_197_474 (by decide) (fun hc2262 => ?_) (fun hc2262 => ?_)
                                · refine s_aload_n kx_197_479 rfl ?_
                                  refine s_iconst (v := 1) kx_197_480 (by decide) ?_
                                  refine s_callV2 (k := 63) (s1 := 2) (s2 := 0) (as := [(0, 1)]) (rest := []) kx_197_481 kp_197_370 (Or.inl rfl) rfl (tk_63 hT) ki_191 kcl_191 rfl rfl (by decide) (m_191 (d := d) (least := 1) hT hI2252 (PI.fr (PI.fr hP fr2 rfl) fr2252 rfl) (by omega) (by omega) (by omega)) (kV (fun M2264 hI2264 fr2264 v2263p => ?_))
                                  have hFm2264 := hFm2252.call fr2264 rfl
                                  have tr2265 := (fr2264 63 3 rfl)
                                  have tr2266 := (fr2264 63 4 rfl)
                                  have tr2267 := (fr2264 63 5 rfl)
                                  have tr2268 := (fr2264 63 9 rfl)
                                  have tr2269 := (fr2264 63 42 rfl)
                                  have tr2270 := rg_63_9 hI2264
                                  have hd2271 := PI.deep v2263p.1
                                  have hs2272 := PI.small v2263p.1 (rg_63_43 hI2264).2 (by decide)
                                  have hs2272a := hs2272.1
                                  have hs2272b := hs2272.2.1
                                  have hs2272c := rg_63_45 hI2264
                                  have hK2273 := KP.trans (KP.fr (KP.fr (KP.refl (M := M)) fr2 (fun _ => rfl)) fr2252 (fun _ => rfl)) ((fr2252 63 36 rfl).trans (fr2 63 36 rfl)) v2263p.2
                                  have hk852274 : M2264 85 ((v13 - 1)).toNat = v14 := ((fr2264 85 _ rfl).trans ((fr2252 85 _ rfl).trans v14e))
                                  refine s_aload_n kx_197_484 rfl ?_
                                  refine r_getR (k := 63) (f := 37) (k2 := 85) kx_197_485 kp_197_124 (tk_63 hT) kf_12_37 (by decide) (rq_63_37 hI2264) ?_
                                  refine s_iload_n kx_197_488 rfl ?_
                                  refine s_iload_n kx_197_489 rfl ?_
                                  refine s_iconst (v := 3) kx_197_490 (by decide) ?_
                                  refine s_icmp_ne (t := 498) kx_197_491 (by decide) (fun hc2275 => ?_) (fun hc2275 => absurd hc2275 (by omega))
                                  refine s_iconst (v := 3) kx_197_498 (by decide) ?_
                                  refine r_ast (k := 85) kx_197_499 (tk_85 hT) ⟨by omega, by omega⟩ hI2264 (ru_85 (by omega) (by omega)) (fun M2276 hI2276 u2276 => ?_)
                                  have hFm2276 := hFm2264.up u2276 rfl
                                  have tr2277 := (u2276.2 63 3 (by omega))
                                  have tr2278 := (u2276.2 63 4 (by omega))
                                  have tr2279 := (u2276.2 63 5 (by omega))
                                  have tr2280 := (u2276.2 63 9 (by omega))
                                  have tr2281 := (u2276.2 63 35 (by omega))
                                  have tr2282 := (u2276.2 63 42 (by omega))
                                  have tr2283 := (u2276.2 63 43 (by omega))
                                  have tr2284 := (u2276.2 63 45 (by omega))
                                  refine s_aload_n kx_197_500 rfl ?_
                                  refine r_getR (k := 63) (f := 38) (k2 := 86) kx_197_501 kp_197_127 (tk_63 hT) kf_12_38 (by decide) (rq_63_38 hI2276) ?_
                                  refine s_iload_n kx_197_504 rfl ?_
                                  refine s_iconst (v := 0) kx_197_505 (by decide) ?_
                                  refine r_ast (k := 86) kx_197_506 (tk_86 hT) ⟨by omega, by omega⟩ hI2276 (ru_86 (by omega) (by omega)) (fun M2285 hI2285 u2285 => ?_)
                                  have hFm2285 := hFm2276.up u2285 rfl
                                  have tr2286 := (u2285.2 63 3 (by omega))
                                  have tr2287 := (u2285.2 63 4 (by omega))
                                  have tr2288 := (u2285.2 63 5 (by omega))
                                  have tr2289 := (u2285.2 63 9 (by omega))
                                  have tr2290 := (u2285.2 63 35 (by omega))
                                  have tr2291 := (u2285.2 63 42 (by omega))
                                  have tr2292 := (u2285.2 63 43 (by omega))
                                  have tr2293 := (u2285.2 63 45 (by omega))
                                  refine s_aload_n kx_197_507 rfl ?_
                                  refine s_callV2 (k := 63) (s1 := 1) (s2 := 0) (as := []) (rest := []) kx_197_508 kp_197_286 (Or.inl rfl) rfl (tk_63 hT) ki_180 kcl_180 rfl rfl (by decide) (m_180 (d := d) hT hI2285) (kV (fun M2295 hI2295 fr2295 v2294p => ?_))
                                  have hFm2295 := hFm2285.call fr2295 rfl
                                  have tr2296 := (fr2295 63 9 rfl)
                                  have tr2297 := (fr2295 63 35 rfl)
                                  have tr2298 := (fr2295 63 42 rfl)
                                  have tr2299 := (fr2295 63 43 rfl)
                                  have tr2300 := (fr2295 63 45 rfl)
                                  have tr2301 := rg_63_9 hI2295
                                  refine s_aload_n kx_197_511 rfl ?_
                                  refine s_iconst (v := 0) kx_197_512 (by decide) ?_
                                  refine r_put (k := 63) (f := 46) kx_197_513 kp_197_152 (tk_63 hT) kf_12_46 rfl (by decide) (by decide) hI2295 (ru_63_46 (by omega) (by omega)) (fun M2302 hI2302 u2302 => ?_)
                                  have hFm2302 := hFm2295.up u2302 rfl
                                  have tr2303 := (u2302.2 63 3 (by omega))
                                  have tr2304 := (u2302.2 63 4 (by omega))
                                  have tr2305 := (u2302.2 63 5 (by omega))
                                  have tr2306 := (u2302.2 63 9 (by omega))
                                  have tr2307 := (u2302.2 63 35 (by omega))
                                  have tr2308 := (u2302.2 63 42 (by omega))
                                  have tr2309 := (u2302.2 63 43 (by omega))
                                  have tr2310 := (u2302.2 63 45 (by omega))
                                  refine s_iconst (v := 1) kx_197_516 (by decide) ?_
                                  have hk2311 : M2302 63 9 = v2261 := ((u2302.2 63 9 (by omega)).trans ((fr2295 63 9 rfl).trans ((u2285.2 63 9 (by omega)).trans ((u2276.2 63 9 (by omega)).trans ((fr2264 63 9 rfl).trans v2261e)))))
                                  exact s_iret kx_197_517 (Or.inr ⟨kq_197, by omega⟩) ⟨_, _, rfl, rfl, hI2302, hFm2302, ⟨by omega, by omega, (LXp.up (show LXp M2295 from v2294p.2) u2302 (by decide)), (by omega), (by omega), ⟨(Or.inr (Or.inr ⟨rfl, by omega, Or.inl ⟨u2302.1, PI.to7 (PI.fr (PI.fr (PI.phase (PI.comma v2263p.1 (by omega) (by omega) u2276) (Or.inr (by omega)) (by omega) u2285) fr2295 rfl) (Up.fr u2302) rfl) (by omega)⟩⟩)), (KP.up (KP.fr (KP.up (KP.up hK2273 u2276 (by decide)) u2285 (by decide)) fr2295 (fun _ => rfl)) u2302 (by decide))⟩⟩⟩
                                · refine s_iconst (v := 0) kx_197_477 (by decide) ?_
                                  have hk2312 : M2252 63 4 = v2250 := ((fr2252 63 4 rfl).trans v2250e)
                                  have hk2313 : M2252 63 9 = v2261 := v2261e
                                  exact s_iret kx_197_478 (Or.inr ⟨kq_197, by omega⟩) ⟨_, _, rfl, rfl, hI2252, hFm2252, ⟨by omega, by omega, (LXp.fr (LXp.fr hX fr2 rfl) fr2252 rfl), (by omega), (by omega), ⟨(Or.inl (by omega)), (KP.fr (KP.fr (KP.refl (M := M)) fr2 (fun _ => rfl)) fr2252 (fun _ => rfl))⟩⟩⟩
                        · refine s_aload_n kx_197_427 rfl ?_
                          refine r_getK (k := 63) (f := 9) kx_197_428 kp_197_39 (tk_63 hT) kf_12_9 (fun _ => rfl) v11e ?_
                          refine s_if_ne (t := 439) kx_197_431 (by decide) (fun hc2314 => absurd hc2314 (by omega)) (fun hc2314 => ?_)
                          refine s_aload_n kx_197_434 rfl ?_
                          refine s_iconst (v := 1) kx_197_435 (by decide) ?_
                          refine s_callV2 (k := 63) (s1 := 2) (s2 := 0) (as := [(0, 1)]) (rest := []) kx_197_436 kp_197_370 (Or.inl rfl) rfl (tk_63 hT) ki_191 kcl_191 rfl rfl (by decide) (m_191 (d := d) (least := 1) hT hI2 (PI.fr hP fr2 rfl) (by omega) (by omega) (by omega)) (kV (fun M2316 hI2316 fr2316 v2315p => ?_))
                          have hFm2316 := hFm2.call fr2316 rfl
                          have tr2317 := (fr2316 63 3 rfl)
                          have tr2318 := (fr2316 63 4 rfl)
                          have tr2319 := (fr2316 63 5 rfl)
                          have tr2320 := (fr2316 63 9 rfl)
                          have tr2321 := (fr2316 63 42 rfl)
                          have tr2322 := rg_63_9 hI2316
                          have hK2323 := KP.trans (KP.fr (KP.refl (M := M)) fr2 (fun _ => rfl)) (fr2 63 36 rfl) v2315p.2
                          refine s_iconst (v := 0) kx_197_439 (by decide) ?_
                          have hk2324 : M2316 63 9 = v11 := ((fr2316 63 9 rfl).trans v11e)
                          exact s_iret kx_197_440 (Or.inr ⟨kq_197, by omega⟩) ⟨_, _, rfl, rfl, hI2316, hFm2316, ⟨by omega, by omega, (LXp.fr (LXp.fr hX fr2 rfl) fr2316 rfl), (by omega), (by omega), ⟨(if h9 : 1 ≤ M2316 63 9 then Or.inl h9 else Or.inr (Or.inl ⟨rfl, PI.to7 v2315p.1 (by omega)⟩)), hK2323⟩⟩⟩
                      · replace v1878p := v1878p.resolve_right (by omega)
                        refine s_aload_n kx_197_309 rfl ?_
                        refine r_getR (k := 63) (f := 38) (k2 := 86) kx_197_310 kp_197_127 (tk_63 hT) kf_12_38 (by decide) (rq_63_38 hI2) ?_
                        refine s_iload_n kx_197_313 rfl ?_
                        refine r_aldK (k := 86) kx_197_314 (tk_86 hT) ⟨by omega, by omega⟩ v16e ?_
                        refine s_if_ne (t := 327) kx_197_315 (by decide) (fun hc2325 => ?_) (fun hc2325 => absurd hc2325 (by omega))
                        refine s_aload_n kx_197_327 rfl ?_
                        refine r_getK (k := 63) (f := 9) kx_197_328 kp_197_39 (tk_63 hT) kf_12_9 (fun _ => rfl) v11e ?_
                        refine s_if_le (t := 336) kx_197_331 (by decide) (fun hc2326 => ?_) (fun hc2326 => absurd hc2326 (by omega))
                        refine s_aload_n kx_197_336 rfl ?_
                        refine s_ldc2_w kx_197_337 kp_197_327 ?_
                        refine s_callV2 (k := 63) (s1 := 3) (s2 := 0) (as := [(1, 6385252)]) (rest := []) kx_197_340 kp_197_361 (Or.inl rfl) rfl (tk_63 hT) ki_182 kcl_182 rfl rfl (by decide) (m_182 (d := d + 1) (w := 6385252) hT hI2) (kF (fun v2327 v2327p => ?_))
                        refine s_istore kx_197_343 km_197_4 rfl ?_
                        refine s_aload_n kx_197_345 rfl ?_
                        refine s_iload kx_197_346 rfl ?_
                        have jn2332 : ∀ (y2331 : Int), (1 ≤ y2331) → (y2331 ≤ 2) → ((y2331 = 2 ∧ v2327 ≠ 0) ∨ (y2331 = 1 ∧ v2327 = 0)) → cP k_P xs Ln (d + 2) 197 356 [(0, rf 63), (1, (0, (v13 - 1))), (4, (0, v2327))] [(0, y2331), rf 63] (T, M2) (qW T M fS_197_m 0 (fun v M1 => 0 ≤ v ∧ v ≤ 1 ∧ (LXp M1 ∧ M 63 4 ≤ M1 63 4 ∧ M 63 9 ≤ M1 63 9 ∧ (GOd M M1 c a v ∧ KP M M1)))) := by
                          intro y2331 a2333 a2334 a2335
                          refine s_callV2 (k := 63) (s1 := 2) (s2 := 0) (as := [(0, y2331)]) (rest := []) kx_197_356 kp_197_370 (Or.inl rfl) rfl (tk_63 hT) ki_191 kcl_191 rfl rfl (by decide) (m_191 (d := d) (least := y2331) hT hI2 (PI.fr hP fr2 rfl) (by omega) (by omega) (by omega)) (kV (fun M2337 hI2337 fr2337 v2336p => ?_))
                          have hFm2337 := hFm2.call fr2337 rfl
                          have tr2338 := (fr2337 63 3 rfl)
                          have tr2339 := (fr2337 63 4 rfl)
                          have tr2340 := (fr2337 63 5 rfl)
                          have tr2341 := (fr2337 63 9 rfl)
                          have tr2342 := (fr2337 63 42 rfl)
                          have tr2343 := rg_63_9 hI2337
                          have hd2344 := PI.deep v2336p.1
                          have hs2345 := PI.small v2336p.1 (rg_63_43 hI2337).2 (by decide)
                          have hs2345a := hs2345.1
                          have hs2345b := hs2345.2.1
                          have hs2345c := rg_63_45 hI2337
                          have hK2346 := KP.trans (KP.fr (KP.refl (M := M)) fr2 (fun _ => rfl)) (fr2 63 36 rfl) v2336p.2
                          refine s_aload_n kx_197_359 rfl ?_
                          refine s_iload kx_197_360 rfl ?_
                          have jn2351 : ∀ (y2350 : Int), (20 ≤ y2350) → (y2350 ≤ 21) → ((y2350 = 20 ∧ v2327 ≠ 0) ∨ (y2350 = 21 ∧ v2327 = 0)) → cP k_P xs Ln (d + 2) 197 372 [(0, rf 63), (1, (0, (v13 - 1)))] [(0, y2350), rf 63] (T, M2337) (qW T M fS_197_m 0 (fun v M1 => 0 ≤ v ∧ v ≤ 1 ∧ (LXp M1 ∧ M 63 4 ≤ M1 63 4 ∧ M 63 9 ≤ M1 63 9 ∧ (GOd M M1 c a v ∧ KP M M1)))) := by
                            intro y2350 a2352 a2353 a2354
                            refine s_callV2 (k := 63) (s1 := 2) (s2 := 0) (as := [(0, y2350)]) (rest := []) kx_197_372 kp_197_364 (Or.inl rfl) rfl (tk_63 hT) ki_192 kcl_192 rfl rfl (by decide) (m_192 (d := d + 1) (op := y2350) hT hI2337 (by omega) (by omega)) (kV (fun M2356 hI2356 fr2356 v2355p => ?_))
                            have hFm2356 := hFm2337.call fr2356 rfl
                            have tr2357 := (fr2356 63 3 rfl)
                            have tr2358 := (fr2356 63 4 rfl)
                            have tr2359 := (fr2356 63 5 rfl)
                            have tr2360 := (fr2356 63 9 rfl)
                            have tr2361 := (fr2356 63 35 rfl)
                            have tr2362 := (fr2356 63 42 rfl)
                            have tr2363 := (fr2356 63 43 rfl)
                            have tr2364 := rg_63_9 hI2356
                            have hP2365 := PI.holdL v2336p.1 (B0.fr (B0.fr hB fr2 rfl (fun _ => rfl)) fr2337 rfl (fun _ => rfl)) (by omega) fr2356 v2355p.1 v2355p.2.1 v2355p.2.2
                            refine s_aload_n kx_197_375 rfl ?_
                            refine r_getR (k := 63) (f := 38) (k2 := 86) kx_197_376 kp_197_127 (tk_63 hT) kf_12_38 (by decide) (rq_63_38 hI2356) ?_
                            refine s_iload_n kx_197_379 rfl ?_
                            refine s_iconst (v := 0) kx_197_380 (by decide) ?_
                            refine r_ast (k := 86) kx_197_381 (tk_86 hT) ⟨by omega, by omega⟩ hI2356 (ru_86 (by omega) (by omega)) (fun M2366 hI2366 u2366 => ?_)
                            have hFm2366 := hFm2356.up u2366 rfl
                            have tr2367 := (u2366.2 63 3 (by omega))
                            have tr2368 := (u2366.2 63 4 (by omega))
                            have tr2369 := (u2366.2 63 5 (by omega))
                            have tr2370 := (u2366.2 63 9 (by omega))
                            have tr2371 := (u2366.2 63 35 (by omega))
                            have tr2372 := (u2366.2 63 42 (by omega))
                            have tr2373 := (u2366.2 63 43 (by omega))
                            have tr2374 := (u2366.2 63 45 (by omega))
                            refine s_aload_n kx_197_382 rfl ?_
                            refine r_getR (k := 63) (f := 39) (k2 := 87) kx_197_383 kp_197_130 (tk_63 hT) kf_12_39 (by decide) (rq_63_39 hI2366) ?_
                            refine s_iload_n kx_197_386 rfl ?_
                            refine s_iconst (v := 1) kx_197_387 (by decide) ?_
                            refine r_bast (k := 87) kx_197_388 (tk_87 hT) ⟨by omega, by omega⟩ (by omega) hI2366 (ru_87 (by omega) (by omega)) (fun M2375 hI2375 u2375 => ?_)
                            have hFm2375 := hFm2366.up u2375 rfl
                            have tr2376 := (u2375.2 63 3 (by omega))
                            have tr2377 := (u2375.2 63 4 (by omega))
                            have tr2378 := (u2375.2 63 5 (by omega))
                            have tr2379 := (u2375.2 63 9 (by omega))
                            have tr2380 := (u2375.2 63 35 (by omega))
                            have tr2381 := (u2375.2 63 42 (by omega))
                            have tr2382 := (u2375.2 63 43 (by omega))
                            have tr2383 := (u2375.2 63 45 (by omega))
                            refine s_aload_n kx_197_389 rfl ?_
                            refine s_callV2 (k := 63) (s1 := 1) (s2 := 0) (as := []) (rest := []) kx_197_390 kp_197_286 (Or.inl rfl) rfl (tk_63 hT) ki_180 kcl_180 rfl rfl (by decide) (m_180 (d := d) hT hI2375) (kV (fun M2385 hI2385 fr2385 v2384p => ?_))
                            have hFm2385 := hFm2375.call fr2385 rfl
                            have tr2386 := (fr2385 63 9 rfl)
                            have tr2387 := (fr2385 63 35 rfl)
                            have tr2388 := (fr2385 63 42 rfl)
                            have tr2389 := (fr2385 63 43 rfl)
                            have tr2390 := (fr2385 63 45 rfl)
                            have tr2391 := rg_63_9 hI2385
                            refine s_aload_n kx_197_393 rfl ?_
                            refine s_iconst (v := 0) kx_197_394 (by decide) ?_
                            refine r_put (k := 63) (f := 46) kx_197_395 kp_197_152 (tk_63 hT) kf_12_46 rfl (by decide) (by decide) hI2385 (ru_63_46 (by omega) (by omega)) (fun M2392 hI2392 u2392 => ?_)
                            have hFm2392 := hFm2385.up u2392 rfl
                            have tr2393 := (u2392.2 63 3 (by omega))
                            have tr2394 := (u2392.2 63 4 (by omega))
                            have tr2395 := (u2392.2 63 5 (by omega))
                            have tr2396 := (u2392.2 63 9 (by omega))
                            have tr2397 := (u2392.2 63 35 (by omega))
                            have tr2398 := (u2392.2 63 42 (by omega))
                            have tr2399 := (u2392.2 63 43 (by omega))
                            have tr2400 := (u2392.2 63 45 (by omega))
                            refine s_iconst (v := 1) kx_197_398 (by decide) ?_
                            have hk2401 : M2392 63 9 = v11 := ((u2392.2 63 9 (by omega)).trans ((fr2385 63 9 rfl).trans ((u2375.2 63 9 (by omega)).trans ((u2366.2 63 9 (by omega)).trans ((fr2356 63 9 rfl).trans ((fr2337 63 9 rfl).trans v11e))))))
                            exact s_iret kx_197_399 (Or.inr ⟨kq_197, by omega⟩) ⟨_, _, rfl, rfl, hI2392, hFm2392, ⟨by omega, by omega, (LXp.up (show LXp M2385 from v2384p.2) u2392 (by decide)), (by omega), (by omega), ⟨(Or.inr (Or.inr ⟨rfl, by omega, Or.inl ⟨u2392.1, PI.to7 (PI.fr (PI.fr (PI.begins1 (PI.phase hP2365 (Or.inr (by omega)) (by omega) u2366) (by omega) (by omega) u2375) fr2385 rfl) (Up.fr u2392) rfl) (by omega)⟩⟩)), (KP.up (KP.fr (KP.up (KP.up (KP.fr hK2346 fr2356 (fun _ => rfl)) u2366 (by decide)) u2375 (by decide)) fr2385 (fun _ => rfl)) u2392 (by decide))⟩⟩⟩
                          refine s_if_eq (t := 370) kx_197_362 (by decide) (fun hc2347 => ?_) (fun hc2347 => ?_)
                          · have hJ2348 : Fr fS_197_j362 M2337 M2337 := Fr.refl
                            refine s_bipush (v := 21) kx_197_370 (by decide) ?_
                            exact cP.wk (lS1 rfl (lS1 rfl lS0)) (jn2351 21 (by omega) (by omega) (by omega))
                          · have hJ2349 : Fr fS_197_j362 M2337 M2337 := Fr.refl
                            refine s_bipush (v := 20) kx_197_365 (by decide) ?_
                            refine s_goto (t := 372) kx_197_367 (by decide) ?_
                            exact cP.wk (lS1 rfl (lS1 rfl lS0)) (jn2351 20 (by omega) (by omega) (by omega))
                        refine s_if_eq (t := 355) kx_197_348 (by decide) (fun hc2328 => ?_) (fun hc2328 => ?_)
                        · have hJ2329 : Fr fS_197_j348 M2 M2 := Fr.refl
                          replace v2327p := v2327p.resolve_left (by omega)
                          refine s_iconst (v := 1) kx_197_355 (by decide) ?_
                          exact cP.wk (lS1 rfl (lS1 rfl (lS1 rfl lS0))) (jn2332 1 (by omega) (by omega) (by omega))
                        · have hJ2330 : Fr fS_197_j348 M2 M2 := Fr.refl
                          replace v2327p := v2327p.resolve_right (by omega)
                          refine s_iconst (v := 2) kx_197_351 (by decide) ?_
                          refine s_goto (t := 356) kx_197_352 (by decide) ?_
                          exact cP.wk (lS1 rfl (lS1 rfl (lS1 rfl lS0))) (jn2332 2 (by omega) (by omega) (by omega))
                  · have hph2402 : M2 86 ((v13 - 1)).toNat = 0 := by omega
                    refine s_aload_n kx_197_201 rfl ?_
                    refine s_bipush (v := 60) kx_197_202 (by decide) ?_
                    refine s_callV2 (k := 63) (s1 := 2) (s2 := 0) (as := [(0, 60)]) (rest := []) kx_197_204 kp_197_283 (Or.inl rfl) rfl (tk_63 hT) ki_181 kcl_181 rfl rfl (by decide) (m_181 (d := d + 1) (c := 60) hT hI2) (kF (fun v2403 v2403p => ?_))
                    refine s_if_ne (t := 228) kx_197_207 (by decide) (fun hc2404 => ?_) (fun hc2404 => ?_)
                    · replace v2403p := v2403p.resolve_right (by omega)
                      refine s_aload_n kx_197_228 rfl ?_
                      refine s_iconst (v := 5) kx_197_229 (by decide) ?_
                      refine s_callV2 (k := 63) (s1 := 2) (s2 := 0) (as := [(0, 5)]) (rest := []) kx_197_230 kp_197_370 (Or.inl rfl) rfl (tk_63 hT) ki_191 kcl_191 rfl rfl (by decide) (m_191 (d := d) (least := 5) hT hI2 (PI.fr hP fr2 rfl) (by omega) (by omega) (by omega)) (kV (fun M2406 hI2406 fr2406 v2405p => ?_))
                      have hFm2406 := hFm2.call fr2406 rfl
                      have tr2407 := (fr2406 63 3 rfl)
                      have tr2408 := (fr2406 63 4 rfl)
                      have tr2409 := (fr2406 63 5 rfl)
                      have tr2410 := (fr2406 63 9 rfl)
                      have tr2411 := (fr2406 63 42 rfl)
                      have tr2412 := rg_63_9 hI2406
                      have hd2413 := PI.deep v2405p.1
                      have hs2414 := PI.small v2405p.1 (rg_63_43 hI2406).2 (by decide)
                      have hs2414a := hs2414.1
                      have hs2414b := hs2414.2.1
                      have hs2414c := rg_63_45 hI2406
                      have hK2415 := KP.trans (KP.fr (KP.refl (M := M)) fr2 (fun _ => rfl)) (fr2 63 36 rfl) v2405p.2
                      refine s_aload_n kx_197_233 rfl ?_
                      refine s_aload_n kx_197_234 rfl ?_
                      refine s_bipush (v := 60) kx_197_235 (by decide) ?_
                      refine s_callV2 (k := 63) (s1 := 2) (s2 := 1) (as := [(0, 60)]) (rest := [rf 63]) kx_197_237 kp_197_283 (Or.inl rfl) rfl (tk_63 hT) ki_181 kcl_181 rfl rfl (by decide) (m_181 (d := d + 1) (c := 60) hT hI2406) (kF (fun v2416 v2416p => ?_))
                      have jn2423 : ∀ (y2422 : Int), (17 ≤ y2422) → (y2422 ≤ 19) → (17 ≤ y2422 ∧ y2422 ≤ 19) → cP k_P xs Ln (d + 2) 197 264 [(0, rf 63), (1, (0, (v13 - 1)))] [(0, y2422), rf 63] (T, M2406) (qW T M fS_197_m 0 (fun v M1 => 0 ≤ v ∧ v ≤ 1 ∧ (LXp M1 ∧ M 63 4 ≤ M1 63 4 ∧ M 63 9 ≤ M1 63 9 ∧ (GOd M M1 c a v ∧ KP M M1)))) := by
                        intro y2422 a2424 a2425 a2426
                        refine s_callV2 (k := 63) (s1 := 2) (s2 := 0) (as := [(0, y2422)]) (rest := []) kx_197_264 kp_197_364 (Or.inl rfl) rfl (tk_63 hT) ki_192 kcl_192 rfl rfl (by decide) (m_192 (d := d + 1) (op := y2422) hT hI2406 (by omega) (by omega)) (kV (fun M2428 hI2428 fr2428 v2427p => ?_))
                        have hFm2428 := hFm2406.call fr2428 rfl
                        have tr2429 := (fr2428 63 3 rfl)
                        have tr2430 := (fr2428 63 4 rfl)
                        have tr2431 := (fr2428 63 5 rfl)
                        have tr2432 := (fr2428 63 9 rfl)
                        have tr2433 := (fr2428 63 35 rfl)
                        have tr2434 := (fr2428 63 42 rfl)
                        have tr2435 := (fr2428 63 43 rfl)
                        have tr2436 := rg_63_9 hI2428
                        refine s_aload_n kx_197_267 rfl ?_
                        refine r_getR (k := 63) (f := 38) (k2 := 86) kx_197_268 kp_197_127 (tk_63 hT) kf_12_38 (by decide) (rq_63_38 hI2428) ?_
                        refine s_iload_n kx_197_271 rfl ?_
                        refine s_iconst (v := 1) kx_197_272 (by decide) ?_
                        refine r_ast (k := 86) kx_197_273 (tk_86 hT) ⟨by omega, by omega⟩ hI2428 (ru_86 (by omega) (by omega)) (fun M2438 hI2438 u2438 => ?_)
                        have hFm2438 := hFm2428.up u2438 rfl
                        have tr2439 := (u2438.2 63 3 (by omega))
                        have tr2440 := (u2438.2 63 4 (by omega))
                        have tr2441 := (u2438.2 63 5 (by omega))
                        have tr2442 := (u2438.2 63 9 (by omega))
                        have tr2443 := (u2438.2 63 35 (by omega))
                        have tr2444 := (u2438.2 63 42 (by omega))
                        have tr2445 := (u2438.2 63 43 (by omega))
                        have tr2446 := (u2438.2 63 45 (by omega))
                        have hP2447 := PI.holdC v2405p.1 (f := (v13 - 1)) (by omega) ((fr2406 86 _ rfl).trans hph2402) (B0.fr (B0.fr hB fr2 rfl (fun _ => rfl)) fr2406 rfl (fun _ => rfl)) (by omega) fr2428 v2427p.1 v2427p.2.1 v2427p.2.2 u2438
                        refine s_aload_n kx_197_274 rfl ?_
                        refine s_callV2 (k := 63) (s1 := 1) (s2 := 0) (as := []) (rest := []) kx_197_275 kp_197_286 (Or.inl rfl) rfl (tk_63 hT) ki_180 kcl_180 rfl rfl (by decide) (m_180 (d := d) hT hI2438) (kV (fun M2449 hI2449 fr2449 v2448p => ?_))
                        have hFm2449 := hFm2438.call fr2449 rfl
                        have tr2450 := (fr2449 63 9 rfl)
                        have tr2451 := (fr2449 63 35 rfl)
                        have tr2452 := (fr2449 63 42 rfl)
                        have tr2453 := (fr2449 63 43 rfl)
                        have tr2454 := (fr2449 63 45 rfl)
                        have tr2455 := rg_63_9 hI2449
                        refine s_aload_n kx_197_278 rfl ?_
                        refine s_iconst (v := 0) kx_197_279 (by decide) ?_
                        refine r_put (k := 63) (f := 46) kx_197_280 kp_197_152 (tk_63 hT) kf_12_46 rfl (by decide) (by decide) hI2449 (ru_63_46 (by omega) (by omega)) (fun M2456 hI2456 u2456 => ?_)
                        have hFm2456 := hFm2449.up u2456 rfl
                        have tr2457 := (u2456.2 63 3 (by omega))
                        have tr2458 := (u2456.2 63 4 (by omega))
                        have tr2459 := (u2456.2 63 5 (by omega))
                        have tr2460 := (u2456.2 63 9 (by omega))
                        have tr2461 := (u2456.2 63 35 (by omega))
                        have tr2462 := (u2456.2 63 42 (by omega))
                        have tr2463 := (u2456.2 63 43 (by omega))
                        have tr2464 := (u2456.2 63 45 (by omega))
                        refine s_iconst (v := 1) kx_197_283 (by decide) ?_
                        have hk2465 : M2456 63 9 = v11 := ((u2456.2 63 9 (by omega)).trans ((fr2449 63 9 rfl).trans ((u2438.2 63 9 (by omega)).trans ((fr2428 63 9 rfl).trans ((fr2406 63 9 rfl).trans v11e)))))
                        exact s_iret kx_197_284 (Or.inr ⟨kq_197, by omega⟩) ⟨_, _, rfl, rfl, hI2456, hFm2456, ⟨by omega, by omega, (LXp.up (show LXp M2449 from v2448p.2) u2456 (by decide)), (by omega), (by omega), ⟨(Or.inr (Or.inr ⟨rfl, by omega, Or.inl ⟨u2456.1, PI.to7 (PI.fr (PI.fr hP2447 fr2449 rfl) (Up.fr u2456) rfl) (by omega)⟩⟩)), (KP.up (KP.fr (KP.up (KP.fr hK2415 fr2428 (fun _ => rfl)) u2438 (by decide)) fr2449 (fun _ => rfl)) u2456 (by decide))⟩⟩⟩
                      refine s_if_eq (t := 248) kx_197_240 (by decide) (fun hc2417 => ?_) (fun hc2417 => ?_)
                      · have hJ2418 : Fr fS_197_j240 M2406 M2406 := Fr.refl
                        replace v2416p := v2416p.resolve_left (by omega)
                        refine s_aload_n kx_197_248 rfl ?_
                        refine s_bipush (v := 62) kx_197_249 (by decide) ?_
                        refine s_callV2 (k := 63) (s1 := 2) (s2 := 1) (as := [(0, 62)]) (rest := [rf 63]) kx_197_251 kp_197_283 (Or.inl rfl) rfl (tk_63 hT) ki_181 kcl_181 rfl rfl (by decide) (m_181 (d := d + 1) (c := 62) hT hI2406) (kF (fun v2419 v2419p => ?_))
                        refine s_if_eq (t := 262) kx_197_254 (by decide) (fun hc2420 => ?_) (fun hc2420 => ?_)
                        · replace v2419p := v2419p.resolve_left (by omega)
                          refine s_bipush (v := 19) kx_197_262 (by decide) ?_
                          exact cP.wk (lS1 rfl (lS1 rfl lS0)) (jn2423 19 (by omega) (by omega) (by omega))
                        · replace v2419p := v2419p.resolve_right (by omega)
                          refine s_bipush (v := 18) kx_197_257 (by decide) ?_
                          refine s_goto (t := 264) kx_197_259 (by decide) ?_
                          exact cP.wk (lS1 rfl (lS1 rfl lS0)) (jn2423 18 (by omega) (by omega) (by omega))
                      · have hJ2421 : Fr fS_197_j240 M2406 M2406 := Fr.refl
                        replace v2416p := v2416p.resolve_right (by omega)
                        refine s_bipush (v := 17) kx_197_243 (by decide) ?_
                        refine s_goto (t := 264) kx_197_245 (by decide) ?_
                        exact cP.wk (lS1 rfl (lS1 rfl lS0)) (jn2423 17 (by omega) (by omega) (by omega))
                    · replace v2403p := v2403p.resolve_left (by omega)
                      refine s_aload_n kx_197_210 rfl ?_
                      refine s_bipush (v := 62) kx_197_211 (by decide) ?_
                      refine s_callV2 (k := 63) (s1 := 2) (s2 := 0) (as := [(0, 62)]) (rest := []) kx_197_213 kp_197_283 (Or.inl rfl) rfl (tk_63 hT) ki_181 kcl_181 rfl rfl (by decide) (m_181 (d := d + 1) (c := 62) hT hI2) (kF (fun v2466 v2466p => ?_))
                      refine s_if_ne (t := 228) kx_197_216 (by decide) (fun hc2467 => ?_) (fun hc2467 => ?_)
                      · replace v2466p := v2466p.resolve_right (by omega)
                        refine s_aload_n kx_197_228 rfl ?_
                        refine s_iconst (v := 5) kx_197_229 (by decide) ?_
                        refine s_callV2 (k := 63) (s1 := 2) (s2 := 0) (as := [(0, 5)]) (rest := []) kx_197_230 kp_197_370 (Or.inl rfl) rfl (tk_63 hT) ki_191 kcl_191 rfl rfl (by decide) (m_191 (d := d) (least := 5) hT hI2 (PI.fr hP fr2 rfl) (by omega) (by omega) (by omega)) (kV (fun M2469 hI2469 fr2469 v2468p => ?_))
                        have hFm2469 := hFm2.call fr2469 rfl
                        have tr2470 := (fr2469 63 3 rfl)
                        have tr2471 := (fr2469 63 4 rfl)
                        have tr2472 := (fr2469 63 5 rfl)
                        have tr2473 := (fr2469 63 9 rfl)
                        have tr2474 := (fr2469 63 42 rfl)
                        have tr2475 := rg_63_9 hI2469
                        have hd2476 := PI.deep v2468p.1
                        have hs2477 := PI.small v2468p.1 (rg_63_43 hI2469).2 (by decide)
                        have hs2477a := hs2477.1
                        have hs2477b := hs2477.2.1
                        have hs2477c := rg_63_45 hI2469
                        have hK2478 := KP.trans (KP.fr (KP.refl (M := M)) fr2 (fun _ => rfl)) (fr2 63 36 rfl) v2468p.2
                        refine s_aload_n kx_197_233 rfl ?_
                        refine s_aload_n kx_197_234 rfl ?_
                        refine s_bipush (v := 60) kx_197_235 (by decide) ?_
                        refine s_callV2 (k := 63) (s1 := 2) (s2 := 1) (as := [(0, 60)]) (rest := [rf 63]) kx_197_237 kp_197_283 (Or.inl rfl) rfl (tk_63 hT) ki_181 kcl_181 rfl rfl (by decide) (m_181 (d := d + 1) (c := 60) hT hI2469) (kF (fun v2479 v2479p => ?_))
                        have jn2486 : ∀ (y2485 : Int), (17 ≤ y2485) → (y2485 ≤ 19) → (17 ≤ y2485 ∧ y2485 ≤ 19) → cP k_P xs Ln (d + 2) 197 264 [(0, rf 63), (1, (0, (v13 - 1)))] [(0, y2485), rf 63] (T, M2469) (qW T M fS_197_m 0 (fun v M1 => 0 ≤ v ∧ v ≤ 1 ∧ (LXp M1 ∧ M 63 4 ≤ M1 63 4 ∧ M 63 9 ≤ M1 63 9 ∧ (GOd M M1 c a v ∧ KP M M1)))) := by
                          intro y2485 a2487 a2488 a2489
                          refine s_callV2 (k := 63) (s1 := 2) (s2 := 0) (as := [(0, y2485)]) (rest := []) kx_197_264 kp_197_364 (Or.inl rfl) rfl (tk_63 hT) ki_192 kcl_192 rfl rfl (by decide) (m_192 (d := d + 1) (op := y2485) hT hI2469 (by omega) (by omega)) (kV (fun M2491 hI2491 fr2491 v2490p => ?_))
                          have hFm2491 := hFm2469.call fr2491 rfl
                          have tr2492 := (fr2491 63 3 rfl)
                          have tr2493 := (fr2491 63 4 rfl)
                          have tr2494 := (fr2491 63 5 rfl)
                          have tr2495 := (fr2491 63 9 rfl)
                          have tr2496 := (fr2491 63 35 rfl)
                          have tr2497 := (fr2491 63 42 rfl)
                          have tr2498 := (fr2491 63 43 rfl)
                          have tr2499 := rg_63_9 hI2491
                          refine s_aload_n kx_197_267 rfl ?_
                          refine r_getR (k := 63) (f := 38) (k2 := 86) kx_197_268 kp_197_127 (tk_63 hT) kf_12_38 (by decide) (rq_63_38 hI2491) ?_
                          refine s_iload_n kx_197_271 rfl ?_
                          refine s_iconst (v := 1) kx_197_272 (by decide) ?_
                          refine r_ast (k := 86) kx_197_273 (tk_86 hT) ⟨by omega, by omega⟩ hI2491 (ru_86 (by omega) (by omega)) (fun M2501 hI2501 u2501 => ?_)
                          have hFm2501 := hFm2491.up u2501 rfl
                          have tr2502 := (u2501.2 63 3 (by omega))
                          have tr2503 := (u2501.2 63 4 (by omega))
                          have tr2504 := (u2501.2 63 5 (by omega))
                          have tr2505 := (u2501.2 63 9 (by omega))
                          have tr2506 := (u2501.2 63 35 (by omega))
                          have tr2507 := (u2501.2 63 42 (by omega))
                          have tr2508 := (u2501.2 63 43 (by omega))
                          have tr2509 := (u2501.2 63 45 (by omega))
                          have hP2510 := PI.holdC v2468p.1 (f := (v13 - 1)) (by omega) ((fr2469 86 _ rfl).trans hph2402) (B0.fr (B0.fr hB fr2 rfl (fun _ => rfl)) fr2469 rfl (fun _ => rfl)) (by omega) fr2491 v2490p.1 v2490p.2.1 v2490p.2.2 u2501
                          refine s_aload_n kx_197_274 rfl ?_
                          refine s_callV2 (k := 63) (s1 := 1) (s2 := 0) (as := []) (rest := []) kx_197_275 kp_197_286 (Or.inl rfl) rfl (tk_63 hT) ki_180 kcl_180 rfl rfl (by decide) (m_180 (d := d) hT hI2501) (kV (fun M2512 hI2512 fr2512 v2511p => ?_))
                          have hFm2512 := hFm2501.call fr2512 rfl
                          have tr2513 := (fr2512 63 9 rfl)
                          have tr2514 := (fr2512 63 35 rfl)
                          have tr2515 := (fr2512 63 42 rfl)
                          have tr2516 := (fr2512 63 43 rfl)
                          have tr2517 := (fr2512 63 45 rfl)
                          have tr2518 := rg_63_9 hI2512
                          refine s_aload_n kx_197_278 rfl ?_
                          refine s_iconst (v := 0) kx_197_279 (by decide) ?_
                          refine r_put (k := 63) (f := 46) kx_197_280 kp_197_152 (tk_63 hT) kf_12_46 rfl (by decide) (by decide) hI2512 (ru_63_46 (by omega) (by omega)) (fun M2519 hI2519 u2519 => ?_)
                          have hFm2519 := hFm2512.up u2519 rfl
                          have tr2520 := (u2519.2 63 3 (by omega))
                          have tr2521 := (u2519.2 63 4 (by omega))
                          have tr2522 := (u2519.2 63 5 (by omega))
                          have tr2523 := (u2519.2 63 9 (by omega))
                          have tr2524 := (u2519.2 63 35 (by omega))
                          have tr2525 := (u2519.2 63 42 (by omega))
                          have tr2526 := (u2519.2 63 43 (by omega))
                          have tr2527 := (u2519.2 63 45 (by omega))
                          refine s_iconst (v := 1) kx_197_283 (by decide) ?_
                          have hk2528 : M2519 63 9 = v11 := ((u2519.2 63 9 (by omega)).trans ((fr2512 63 9 rfl).trans ((u2501.2 63 9 (by omega)).trans ((fr2491 63 9 rfl).trans ((fr2469 63 9 rfl).trans v11e)))))
                          exact s_iret kx_197_284 (Or.inr ⟨kq_197, by omega⟩) ⟨_, _, rfl, rfl, hI2519, hFm2519, ⟨by omega, by omega, (LXp.up (show LXp M2512 from v2511p.2) u2519 (by decide)), (by omega), (by omega), ⟨(Or.inr (Or.inr ⟨rfl, by omega, Or.inl ⟨u2519.1, PI.to7 (PI.fr (PI.fr hP2510 fr2512 rfl) (Up.fr u2519) rfl) (by omega)⟩⟩)), (KP.up (KP.fr (KP.up (KP.fr hK2478 fr2491 (fun _ => rfl)) u2501 (by decide)) fr2512 (fun _ => rfl)) u2519 (by decide))⟩⟩⟩
                        refine s_if_eq (t := 248) kx_197_240 (by decide) (fun hc2480 => ?_) (fun hc2480 => ?_)
                        · have hJ2481 : Fr fS_197_j240 M2469 M2469 := Fr.refl
                          replace v2479p := v2479p.resolve_left (by omega)
                          refine s_aload_n kx_197_248 rfl ?_
                          refine s_bipush (v := 62) kx_197_249 (by decide) ?_
                          refine s_callV2 (k := 63) (s1 := 2) (s2 := 1) (as := [(0, 62)]) (rest := [rf 63]) kx_197_251 kp_197_283 (Or.inl rfl) rfl (tk_63 hT) ki_181 kcl_181 rfl rfl (by decide) (m_181 (d := d + 1) (c := 62) hT hI2469) (kF (fun v2482 v2482p => ?_))
                          refine s_if_eq (t := 262) kx_197_254 (by decide) (fun hc2483 => ?_) (fun hc2483 => ?_)
                          · replace v2482p := v2482p.resolve_left (by omega)
                            refine s_bipush (v := 19) kx_197_262 (by decide) ?_
                            exact cP.wk (lS1 rfl (lS1 rfl lS0)) (jn2486 19 (by omega) (by omega) (by omega))
                          · replace v2482p := v2482p.resolve_right (by omega)
                            refine s_bipush (v := 18) kx_197_257 (by decide) ?_
                            refine s_goto (t := 264) kx_197_259 (by decide) ?_
                            exact cP.wk (lS1 rfl (lS1 rfl lS0)) (jn2486 18 (by omega) (by omega) (by omega))
                        · have hJ2484 : Fr fS_197_j240 M2469 M2469 := Fr.refl
                          replace v2479p := v2479p.resolve_right (by omega)
                          refine s_bipush (v := 17) kx_197_243 (by decide) ?_
                          refine s_goto (t := 264) kx_197_245 (by decide) ?_
                          exact cP.wk (lS1 rfl (lS1 rfl lS0)) (jn2486 17 (by omega) (by omega) (by omega))
                      · replace v2466p := v2466p.resolve_left (by omega)
                        refine s_aload_n kx_197_219 rfl ?_
                        refine s_bipush (v := 61) kx_197_220 (by decide) ?_
                        refine s_callV2 (k := 63) (s1 := 2) (s2 := 0) (as := [(0, 61)]) (rest := []) kx_197_222 kp_197_283 (Or.inl rfl) rfl (tk_63 hT) ki_181 kcl_181 rfl rfl (by decide) (m_181 (d := d + 1) (c := 61) hT hI2) (kF (fun v2529 v2529p => ?_))
                        refine s_if_eq (t := 285) kx_197_225 (by decide) (fun hc2530 => ?_) (fun hc2530 => ?_)
                        · replace v2529p := v2529p.resolve_left (by omega)
                          refine s_iload_n kx_197_285 rfl ?_
                          refine s_if_eq (t := 400) kx_197_286 (by decide) (fun hc2531 => absurd hc2531 (by omega)) (fun hc2531 => ?_)
                          refine s_aload_n kx_197_289 rfl ?_
                          refine s_ldc2_w kx_197_290 kp_197_327 ?_
                          refine s_callV2 (k := 63) (s1 := 3) (s2 := 0) (as := [(1, 6385252)]) (rest := []) kx_197_293 kp_197_361 (Or.inl rfl) rfl (tk_63 hT) ki_182 kcl_182 rfl rfl (by decide) (m_182 (d := d + 1) (w := 6385252) hT hI2) (kF (fun v2532 v2532p => ?_))
                          refine s_if_ne (t := 309) kx_197_296 (by decide) (fun hc2533 => ?_) (fun hc2533 => ?_)
                          · replace v2532p := v2532p.resolve_right (by omega)
                            refine s_aload_n kx_197_309 rfl ?_
                            refine r_getR (k := 63) (f := 38) (k2 := 86) kx_197_310 kp_197_127 (tk_63 hT) kf_12_38 (by decide) (rq_63_38 hI2) ?_
                            refine s_iload_n kx_197_313 rfl ?_
                            refine r_aldK (k := 86) kx_197_314 (tk_86 hT) ⟨by omega, by omega⟩ v16e ?_
                            refine s_if_ne (t := 327) kx_197_315 (by decide) (fun hc2534 => absurd hc2534 (by omega)) (fun hc2534 => ?_)
                            refine s_aload_n kx_197_318 rfl ?_
                            refine s_iconst (v := 1) kx_197_319 (by decide) ?_
                            refine s_aload_n kx_197_320 rfl ?_
                            refine r_getI (k := 63) (f := 4) kx_197_321 kp_197_23 (tk_63 hT) kf_12_4 (fun _ => rfl) (rg_63_4 hI2) (fun v2535 v2535e v2535a v2535b => ?_)
                            have v2535z : M 63 4 = v2535 := ((fr2 63 4 rfl)).symm.trans v2535e
                            refine s_callV2 (k := 63) (s1 := 3) (s2 := 0) (as := [(0, v2535), (0, 1)]) (rest := []) kx_197_324 kp_197_263 (Or.inl rfl) rfl (tk_63 hT) ki_176 kcl_176 rfl rfl (by decide) (m_176 (d := d + 1) (kind := 1) (place := v2535) hT hI2 (by omega)) (kV (fun M2537 hI2537 fr2537 v2536p => ?_))
                            have hFm2537 := hFm2.call fr2537 rfl
                            have tr2538 := (fr2537 63 3 rfl)
                            have tr2539 := (fr2537 63 4 rfl)
                            have tr2540 := (fr2537 63 5 rfl)
                            have tr2541 := (fr2537 63 35 rfl)
                            have tr2542 := (fr2537 63 42 rfl)
                            have tr2543 := (fr2537 63 43 rfl)
                            have tr2544 := (fr2537 63 45 rfl)
                            have tr2545 := rg_63_9 hI2537
                            refine s_aload_n kx_197_327 rfl ?_
                            refine r_getI (k := 63) (f := 9) kx_197_328 kp_197_39 (tk_63 hT) kf_12_9 (fun _ => rfl) (rg_63_9 hI2537) (fun v2546 v2546e v2546a v2546b => ?_)
                            refine s_if_le (t := 336) kx_197_331 (by decide) (fun hc2547 => ?_) (fun hc2547 => ?_)
                            · refine s_aload_n kx_197_336 rfl ?_
                              refine s_ldc2_w kx_197_337 kp_197_327 ?_
                              refine s_callV2 (k := 63) (s1 := 3) (s2 := 0) (as := [(1, 6385252)]) (rest := []) kx_197_340 kp_197_361 (Or.inl rfl) rfl (tk_63 hT) ki_182 kcl_182 rfl rfl (by decide) (m_182 (d := d + 1) (w := 6385252) hT hI2537) (kF (fun v2548 v2548p => ?_))
                              refine s_istore kx_197_343 km_197_4 rfl ?_
                              refine s_aload_n kx_197_345 rfl ?_
                              refine s_iload kx_197_346 rfl ?_
                              have jn2553 : ∀ (y2552 : Int), (1 ≤ y2552) → (y2552 ≤ 2) → ((y2552 = 2 ∧ v2548 ≠ 0) ∨ (y2552 = 1 ∧ v2548 = 0)) → cP k_P xs Ln (d + 2) 197 356 [(0, rf 63), (1, (0, (v13 - 1))), (4, (0, v2548))] [(0, y2552), rf 63] (T, M2537) (qW T M fS_197_m 0 (fun v M1 => 0 ≤ v ∧ v ≤ 1 ∧ (LXp M1 ∧ M 63 4 ≤ M1 63 4 ∧ M 63 9 ≤ M1 63 9 ∧ (GOd M M1 c a v ∧ KP M M1)))) := by
                                intro y2552 a2554 a2555 a2556
                                refine s_callV2 (k := 63) (s1 := 2) (s2 := 0) (as := [(0, y2552)]) (rest := []) kx_197_356 kp_197_370 (Or.inl rfl) rfl (tk_63 hT) ki_191 kcl_191 rfl rfl (by decide) (m_191 (d := d) (least := y2552) hT hI2537 (PI.fr (PI.fr hP fr2 rfl) fr2537 rfl) (by omega) (by omega) (by omega)) (kV (fun M2558 hI2558 fr2558 v2557p => ?_))
                                have hFm2558 := hFm2537.call fr2558 rfl
                                have tr2559 := (fr2558 63 3 rfl)
                                have tr2560 := (fr2558 63 4 rfl)
                                have tr2561 := (fr2558 63 5 rfl)
                                have tr2562 := (fr2558 63 9 rfl)
                                have tr2563 := (fr2558 63 42 rfl)
                                have tr2564 := rg_63_9 hI2558
                                have hd2565 := PI.deep v2557p.1
                                have hs2566 := PI.small v2557p.1 (rg_63_43 hI2558).2 (by decide)
                                have hs2566a := hs2566.1
                                have hs2566b := hs2566.2.1
                                have hs2566c := rg_63_45 hI2558
                                have hK2567 := KP.trans (KP.fr (KP.fr (KP.refl (M := M)) fr2 (fun _ => rfl)) fr2537 (fun _ => rfl)) ((fr2537 63 36 rfl).trans (fr2 63 36 rfl)) v2557p.2
                                refine s_aload_n kx_197_359 rfl ?_
                                refine s_iload kx_197_360 rfl ?_
                                have jn2572 : ∀ (y2571 : Int), (20 ≤ y2571) → (y2571 ≤ 21) → ((y2571 = 20 ∧ v2548 ≠ 0) ∨ (y2571 = 21 ∧ v2548 = 0)) → cP k_P xs Ln (d + 2) 197 372 [(0, rf 63), (1, (0, (v13 - 1)))] [(0, y2571), rf 63] (T, M2558) (qW T M fS_197_m 0 (fun v M1 => 0 ≤ v ∧ v ≤ 1 ∧ (LXp M1 ∧ M 63 4 ≤ M1 63 4 ∧ M 63 9 ≤ M1 63 9 ∧ (GOd M M1 c a v ∧ KP M M1)))) := by
                                  intro y2571 a2573 a2574 a2575
                                  refine s_callV2 (k := 63) (s1 := 2) (s2 := 0) (as := [(0, y2571)]) (rest := []) kx_197_372 kp_197_364 (Or.inl rfl) rfl (tk_63 hT) ki_192 kcl_192 rfl rfl (by decide) (m_192 (d := d + 1) (op := y2571) hT hI2558 (by omega) (by omega)) (kV (fun M2577 hI2577 fr2577 v2576p => ?_))
                                  have hFm2577 := hFm2558.call fr2577 rfl
                                  have tr2578 := (fr2577 63 3 rfl)
                                  have tr2579 := (fr2577 63 4 rfl)
                                  have tr2580 := (fr2577 63 5 rfl)
                                  have tr2581 := (fr2577 63 9 rfl)
                                  have tr2582 := (fr2577 63 35 rfl)
                                  have tr2583 := (fr2577 63 42 rfl)
                                  have tr2584 := (fr2577 63 43 rfl)
                                  have tr2585 := rg_63_9 hI2577
                                  have hP2586 := PI.holdL v2557p.1 (B0.fr (B0.fr (B0.fr hB fr2 rfl (fun _ => rfl)) fr2537 rfl (fun _ => rfl)) fr2558 rfl (fun _ => rfl)) (by omega) fr2577 v2576p.1 v2576p.2.1 v2576p.2.2
                                  refine s_aload_n kx_197_375 rfl ?_
                                  refine r_getR (k := 63) (f := 38) (k2 := 86) kx_197_376 kp_197_127 (tk_63 hT) kf_12_38 (by decide) (rq_63_38 hI2577) ?_
                                  refine s_iload_n kx_197_379 rfl ?_
                                  refine s_iconst (v := 0) kx_197_380 (by decide) ?_
                                  refine r_ast (k := 86) kx_197_381 (tk_86 hT) ⟨by omega, by omega⟩ hI2577 (ru_86 (by omega) (by omega)) (fun M2587 hI2587 u2587 => ?_)
                                  have hFm2587 := hFm2577.up u2587 rfl
                                  have tr2588 := (u2587.2 63 3 (by omega))
                                  have tr2589 := (u2587.2 63 4 (by omega))
                                  have tr2590 := (u2587.2 63 5 (by omega))
                                  have tr2591 := (u2587.2 63 9 (by omega))
                                  have tr2592 := (u2587.2 63 35 (by omega))
                                  have tr2593 := (u2587.2 63 42 (by omega))
                                  have tr2594 := (u2587.2 63 43 (by omega))
                                  have tr2595 := (u2587.2 63 45 (by omega))
                                  refine s_aload_n kx_197_382 rfl ?_
                                  refine r_getR (k := 63) (f := 39) (k2 := 87) kx_197_383 kp_197_130 (tk_63 hT) kf_12_39 (by decide) (rq_63_39 hI2587) ?_
                                  refine s_iload_n kx_197_386 rfl ?_
                                  refine s_iconst (v := 1) kx_197_387 (by decide) ?_
                                  refine r_bast (k := 87) kx_197_388 (tk_87 hT) ⟨by omega, by omega⟩ (by omega) hI2587 (ru_87 (by omega) (by omega)) (fun M2596 hI2596 u2596 => ?_)
                                  have hFm2596 := hFm2587.up u2596 rfl
                                  have tr2597 := (u2596.2 63 3 (by omega))
                                  have tr2598 := (u2596.2 63 4 (by omega))
                                  have tr2599 := (u2596.2 63 5 (by omega))
                                  have tr2600 := (u2596.2 63 9 (by omega))
                                  have tr2601 := (u2596.2 63 35 (by omega))
                                  have tr2602 := (u2596.2 63 42 (by omega))
                                  have tr2603 := (u2596.2 63 43 (by omega))
                                  have tr2604 := (u2596.2 63 45 (by omega))
                                  refine s_aload_n kx_197_389 rfl ?_
                                  refine s_callV2 (k := 63) (s1 := 1) (s2 := 0) (as := []) (rest := []) kx_197_390 kp_197_286 (Or.inl rfl) rfl (tk_63 hT) ki_180 kcl_180 rfl rfl (by decide) (m_180 (d := d) hT hI2596) (kV (fun M2606 hI2606 fr2606 v2605p => ?_))
                                  have hFm2606 := hFm2596.call fr2606 rfl
                                  have tr2607 := (fr2606 63 9 rfl)
                                  have tr2608 := (fr2606 63 35 rfl)
                                  have tr2609 := (fr2606 63 42 rfl)
                                  have tr2610 := (fr2606 63 43 rfl)
                                  have tr2611 := (fr2606 63 45 rfl)
                                  have tr2612 := rg_63_9 hI2606
                                  refine s_aload_n kx_197_393 rfl ?_
                                  refine s_iconst (v := 0) kx_197_394 (by decide) ?_
                                  refine r_put (k := 63) (f := 46) kx_197_395 kp_197_152 (tk_63 hT) kf_12_46 rfl (by decide) (by decide) hI2606 (ru_63_46 (by omega) (by omega)) (fun M2613 hI2613 u2613 => ?_)
                                  have hFm2613 := hFm2606.up u2613 rfl
                                  have tr2614 := (u2613.2 63 3 (by omega))
                                  have tr2615 := (u2613.2 63 4 (by omega))
                                  have tr2616 := (u2613.2 63 5 (by omega))
                                  have tr2617 := (u2613.2 63 9 (by omega))
                                  have tr2618 := (u2613.2 63 35 (by omega))
                                  have tr2619 := (u2613.2 63 42 (by omega))
                                  have tr2620 := (u2613.2 63 43 (by omega))
                                  have tr2621 := (u2613.2 63 45 (by omega))
                                  refine s_iconst (v := 1) kx_197_398 (by decide) ?_
                                  have hk2622 : M2613 63 9 = v2546 := ((u2613.2 63 9 (by omega)).trans ((fr2606 63 9 rfl).trans ((u2596.2 63 9 (by omega)).trans ((u2587.2 63 9 (by omega)).trans ((fr2577 63 9 rfl).trans ((fr2558 63 9 rfl).trans v2546e))))))
                                  exact s_iret kx_197_399 (Or.inr ⟨kq_197, by omega⟩) ⟨_, _, rfl, rfl, hI2613, hFm2613, ⟨by omega, by omega, (LXp.up (show LXp M2606 from v2605p.2) u2613 (by decide)), (by omega), (by omega), ⟨(Or.inr (Or.inr ⟨rfl, by omega, Or.inl ⟨u2613.1, PI.to7 (PI.fr (PI.fr (PI.begins1 (PI.phase hP2586 (Or.inr (by omega)) (by omega) u2587) (by omega) (by omega) u2596) fr2606 rfl) (Up.fr u2613) rfl) (by omega)⟩⟩)), (KP.up (KP.fr (KP.up (KP.up (KP.fr hK2567 fr2577 (fun _ => rfl)) u2587 (by decide)) u2596 (by decide)) fr2606 (fun _ => rfl)) u2613 (by decide))⟩⟩⟩
                                refine s_if_eq (t := 370) kx_197_362 (by decide) (fun hc2568 => ?_) (fun hc2568 => ?_)
                                · have hJ2569 : Fr fS_197_j362 M2558 M2558 := Fr.refl
                                  refine s_bipush (v := 21) kx_197_370 (by decide) ?_
                                  exact cP.wk (lS1 rfl (lS1 rfl lS0)) (jn2572 21 (by omega) (by omega) (by omega))
                                · have hJ2570 : Fr fS_197_j362 M2558 M2558 := Fr.refl
                                  refine s_bipush (v := 20) kx_197_365 (by decide) ?_
                                  refine s_goto (t := 372) kx_197_367 (by decide) ?_
                                  exact cP.wk (lS1 rfl (lS1 rfl lS0)) (jn2572 20 (by omega) (by omega) (by omega))
                              refine s_if_eq (t := 355) kx_197_348 (by decide) (fun hc2549 => ?_) (fun hc2549 => ?_)
                              · have hJ2550 : Fr fS_197_j348 M2537 M2537 := Fr.refl
                                replace v2548p := v2548p.resolve_left (by omega)
                                refine s_iconst (v := 1) kx_197_355 (by decide) ?_
                                exact cP.wk (lS1 rfl (lS1 rfl (lS1 rfl lS0))) (jn2553 1 (by omega) (by omega) (by omega))
                              · have hJ2551 : Fr fS_197_j348 M2537 M2537 := Fr.refl
                                replace v2548p := v2548p.resolve_right (by omega)
                                refine s_iconst (v := 2) kx_197_351 (by decide) ?_
                                refine s_goto (t := 356) kx_197_352 (by decide) ?_
                                exact cP.wk (lS1 rfl (lS1 rfl (lS1 rfl lS0))) (jn2553 2 (by omega) (by omega) (by omega))
                            · refine s_iconst (v := 0) kx_197_334 (by decide) ?_
                              have hk2623 : M2537 63 4 = v2535 := ((fr2537 63 4 rfl).trans v2535e)
                              have hk2624 : M2537 63 9 = v2546 := v2546e
                              exact s_iret kx_197_335 (Or.inr ⟨kq_197, by omega⟩) ⟨_, _, rfl, rfl, hI2537, hFm2537, ⟨by omega, by omega, (LXp.fr (LXp.fr hX fr2 rfl) fr2537 rfl), (by omega), (by omega), ⟨(Or.inl (by omega)), (KP.fr (KP.fr (KP.refl (M := M)) fr2 (fun _ => rfl)) fr2537 (fun _ => rfl))⟩⟩⟩
                          · replace v2532p := v2532p.resolve_left (by omega)
                            refine s_aload_n kx_197_299 rfl ?_
                            refine s_ldc2_w kx_197_300 kp_197_325 ?_
                            refine s_callV2 (k := 63) (s1 := 3) (s2 := 0) (as := [(1, 28530)]) (rest := []) kx_197_303 kp_197_361 (Or.inl rfl) rfl (tk_63 hT) ki_182 kcl_182 rfl rfl (by decide) (m_182 (d := d + 1) (w := 28530) hT hI2) (kF (fun v2625 v2625p => ?_))
                            refine s_if_eq (t := 400) kx_197_306 (by decide) (fun hc2626 => ?_) (fun hc2626 => ?_)
                            · replace v2625p := v2625p.resolve_left (by omega)
                              refine s_iload_n kx_197_400 rfl ?_
                              refine s_if_eq (t := 422) kx_197_401 (by decide) (fun hc2627 => absurd hc2627 (by omega)) (fun hc2627 => ?_)
                              refine s_aload_n kx_197_404 rfl ?_
                              refine r_getR (k := 63) (f := 38) (k2 := 86) kx_197_405 kp_197_127 (tk_63 hT) kf_12_38 (by decide) (rq_63_38 hI2) ?_
                              refine s_iload_n kx_197_408 rfl ?_
                              refine r_aldK (k := 86) kx_197_409 (tk_86 hT) ⟨by omega, by omega⟩ v16e ?_
                              refine s_if_ne (t := 422) kx_197_410 (by decide) (fun hc2628 => absurd hc2628 (by omega)) (fun hc2628 => ?_)
                              refine s_aload_n kx_197_413 rfl ?_
                              refine s_iconst (v := 1) kx_197_414 (by decide) ?_
                              refine s_aload_n kx_197_415 rfl ?_
                              refine r_getI (k := 63) (f := 4) kx_197_416 kp_197_23 (tk_63 hT) kf_12_4 (fun _ => rfl) (rg_63_4 hI2) (fun v2629 v2629e v2629a v2629b => ?_)
                              have v2629z : M 63 4 = v2629 := ((fr2 63 4 rfl)).symm.trans v2629e
                              refine s_callV2 (k := 63) (s1 := 3) (s2 := 0) (as := [(0, v2629), (0, 1)]) (rest := []) kx_197_419 kp_197_263 (Or.inl rfl) rfl (tk_63 hT) ki_176 kcl_176 rfl rfl (by decide) (m_176 (d := d + 1) (kind := 1) (place := v2629) hT hI2 (by omega)) (kV (fun M2631 hI2631 fr2631 v2630p => ?_))
                              have hFm2631 := hFm2.call fr2631 rfl
                              have tr2632 := (fr2631 63 3 rfl)
                              have tr2633 := (fr2631 63 4 rfl)
                              have tr2634 := (fr2631 63 5 rfl)
                              have tr2635 := (fr2631 63 35 rfl)
                              have tr2636 := (fr2631 63 42 rfl)
                              have tr2637 := (fr2631 63 43 rfl)
                              have tr2638 := (fr2631 63 45 rfl)
                              have tr2639 := rg_63_9 hI2631
                              refine s_iload_n kx_197_422 rfl ?_
                              refine s_iconst (v := 2) kx_197_423 (by decide) ?_
                              refine s_icmp_ge (t := 441) kx_197_424 (by decide) (fun hc2640 => ?_) (fun hc2640 => ?_)
                              · refine s_iload_n kx_197_441 rfl ?_
                                refine s_iconst (v := 3) kx_197_442 (by decide) ?_
                                refine s_icmp_eq (t := 452) kx_197_443 (by decide) (fun hc2641 => ?_) (fun hc2641 => ?_)
                                · refine s_aload_n kx_197_452 rfl ?_
                                  refine s_bipush (v := 44) kx_197_453 (by decide) ?_
                                  refine s_callV2 (k := 63) (s1 := 2) (s2 := 0) (as := [(0, 44)]) (rest := []) kx_197_455 kp_197_283 (Or.inl rfl) rfl (tk_63 hT) ki_181 kcl_181 rfl rfl (by decide) (m_181 (d := d + 1) (c := 44) hT hI2631) (kF (fun v2642 v2642p => ?_))
                                  refine s_if_ne (t := 470) kx_197_458 (by decide) (fun hc2643 => ?_) (fun hc2643 => ?_)
                                  · replace v2642p := v2642p.resolve_right (by omega)
                                    refine s_aload_n kx_197_470 rfl ?_
                                    refine r_getI (k := 63) (f := 9) kx_197_471 kp_197_39 (tk_63 hT) kf_12_9 (fun _ => rfl) (rg_63_9 hI2631) (fun v2644 v2644e v2644a v2644b => ?_)
                                    refine s_if_le (t := 479) kx_197_474 (by decide) (fun hc2645 => ?_) (fun hc2645 => ?_)
                                    · refine s_aload_n kx_197_479 rfl ?_
                                      refine s_iconst (v := 1) kx_197_480 (by decide) ?_
                                      refine s_callV2 (k := 63) (s1 := 2) (s2 := 0) (as := [(0, 1)]) (rest := []) kx_197_481 kp_197_370 (Or.inl rfl) rfl (tk_63 hT) ki_191 kcl_191 rfl rfl (by decide) (m_191 (d := d) (least := 1) hT hI2631 (PI.fr (PI.fr hP fr2 rfl) fr2631 rfl) (by omega) (by omega) (by omega)) (kV (fun M2647 hI2647 fr2647 v2646p => ?_))
                                      have hFm2647 := hFm2631.call fr2647 rfl
                                      have tr2648 := (fr2647 63 3 rfl)
                                      have tr2649 := (fr2647 63 4 rfl)
                                      have tr2650 := (fr2647 63 5 rfl)
                                      have tr2651 := (fr2647 63 9 rfl)
                                      have tr2652 := (fr2647 63 42 rfl)
                                      have tr2653 := rg_63_9 hI2647
                                      have hd2654 := PI.deep v2646p.1
                                      have hs2655 := PI.small v2646p.1 (rg_63_43 hI2647).2 (by decide)
                                      have hs2655a := hs2655.1
                                      have hs2655b := hs2655.2.1
                                      have hs2655c := rg_63_45 hI2647
                                      have hK2656 := KP.trans (KP.fr (KP.fr (KP.refl (M := M)) fr2 (fun _ => rfl)) fr2631 (fun _ => rfl)) ((fr2631 63 36 rfl).trans (fr2 63 36 rfl)) v2646p.2
                                      have hk852657 : M2647 85 ((v13 - 1)).toNat = v14 := ((fr2647 85 _ rfl).trans ((fr2631 85 _ rfl).trans v14e))
                                      refine s_aload_n kx_197_484 rfl ?_
                                      refine r_getR (k := 63) (f := 37) (k2 := 85) kx_197_485 kp_197_124 (tk_63 hT) kf_12_37 (by decide) (rq_63_37 hI2647) ?_
                                      refine s_iload_n kx_197_488 rfl ?_
                                      refine s_iload_n kx_197_489 rfl ?_
                                      refine s_iconst (v := 3) kx_197_490 (by decide) ?_
                                      refine s_icmp_ne (t := 498) kx_197_491 (by decide) (fun hc2658 => absurd hc2658 (by omega)) (fun hc2658 => ?_)
                                      refine s_iconst (v := 4) kx_197_494 (by decide) ?_
                                      refine s_goto (t := 499) kx_197_495 (by decide) ?_
                                      refine r_ast (k := 85) kx_197_499 (tk_85 hT) ⟨by omega, by omega⟩ hI2647 (ru_85 (by omega) (by omega)) (fun M2659 hI2659 u2659 => ?_)
                                      have hFm2659 := hFm2647.up u2659 rfl
                                      have tr2660 := (u2659.2 63 3 (by omega))
                                      have tr2661 := (u2659.2 63 4 (by omega))
                                      have tr2662 := (u2659.2 63 5 (by omega))
                                      have tr2663 := (u2659.2 63 9 (by omega))
                                      have tr2664 := (u2659.2 63 35 (by omega))
                                      have tr2665 := (u2659.2 63 42 (by omega))
                                      have tr2666 := (u2659.2 63 43 (by omega))
                                      have tr2667 := (u2659.2 63 45 (by omega))
                                      refine s_aload_n kx_197_500 rfl ?_
                                      refine r_getR (k := 63) (f := 38) (k2 := 86) kx_197_501 kp_197_127 (tk_63 hT) kf_12_38 (by decide) (rq_63_38 hI2659) ?_
                                      refine s_iload_n kx_197_504 rfl ?_
                                      refine s_iconst (v := 0) kx_197_505 (by decide) ?_
                                      refine r_ast (k := 86) kx_197_506 (tk_86 hT) ⟨by omega, by omega⟩ hI2659 (ru_86 (by omega) (by omega)) (fun M2668 hI2668 u2668 => ?_)
                                      have hFm2668 := hFm2659.up u2668 rfl
                                      have tr2669 := (u2668.2 63 3 (by omega))
                                      have tr2670 := (u2668.2 63 4 (by omega))
                                      have tr2671 := (u2668.2 63 5 (by omega))
                                      have tr2672 := (u2668.2 63 9 (by omega))
                                      have tr2673 := (u2668.2 63 35 (by omega))
                                      have tr2674 := (u2668.2 63 42 (by omega))
                                      have tr2675 := (u2668.2 63 43 (by omega))
                                      have tr2676 := (u2668.2 63 45 (by omega))
                                      refine s_aload_n kx_197_507 rfl ?_
                                      refine s_callV2 (k := 63) (s1 := 1) (s2 := 0) (as := []) (rest := []) kx_197_508 kp_197_286 (Or.inl rfl) rfl (tk_63 hT) ki_180 kcl_180 rfl rfl (by decide) (m_180 (d := d) hT hI2668) (kV (fun M2678 hI2678 fr2678 v2677p => ?_))
                                      have hFm2678 := hFm2668.call fr2678 rfl
                                      have tr2679 := (fr2678 63 9 rfl)
                                      have tr2680 := (fr2678 63 35 rfl)
                                      have tr2681 := (fr2678 63 42 rfl)
                                      have tr2682 := (fr2678 63 43 rfl)
                                      have tr2683 := (fr2678 63 45 rfl)
                                      have tr2684 := rg_63_9 hI2678
                                      refine s_aload_n kx_197_511 rfl ?_
                                      refine s_iconst (v := 0) kx_197_512 (by decide) ?_
                                      refine r_put (k := 63) (f := 46) kx_197_513 kp_197_152 (tk_63 hT) kf_12_46 rfl (by decide) (by decide) hI2678 (ru_63_46 (by omega) (by omega)) (fun M2685 hI2685 u2685 => ?_)
                                      have hFm2685 := hFm2678.up u2685 rfl
                                      have tr2686 := (u2685.2 63 3 (by omega))
                                      have tr2687 := (u2685.2 63 4 (by omega))
                                      have tr2688 := (u2685.2 63 5 (by omega))
                                      have tr2689 := (u2685.2 63 9 (by omega))
                                      have tr2690 := (u2685.2 63 35 (by omega))
                                      have tr2691 := (u2685.2 63 42 (by omega))
                                      have tr2692 := (u2685.2 63 43 (by omega))
                                      have tr2693 := (u2685.2 63 45 (by omega))
                                      refine s_iconst (v := 1) kx_197_516 (by decide) ?_
                                      have hk2694 : M2685 63 9 = v2644 := ((u2685.2 63 9 (by omega)).trans ((fr2678 63 9 rfl).trans ((u2668.2 63 9 (by omega)).trans ((u2659.2 63 9 (by omega)).trans ((fr2647 63 9 rfl).trans v2644e)))))
                                      exact s_iret kx_197_517 (Or.inr ⟨kq_197, by omega⟩) ⟨_, _, rfl, rfl, hI2685, hFm2685, ⟨by omega, by omega, (LXp.up (show LXp M2678 from v2677p.2) u2685 (by decide)), (by omega), (by omega), ⟨(Or.inr (Or.inr ⟨rfl, by omega, Or.inl ⟨u2685.1, PI.to7 (PI.fr (PI.fr (PI.phase (PI.comma v2646p.1 (by omega) (by omega) u2659) (Or.inr (by omega)) (by omega) u2668) fr2678 rfl) (Up.fr u2685) rfl) (by omega)⟩⟩)), (KP.up (KP.fr (KP.up (KP.up hK2656 u2659 (by decide)) u2668 (by decide)) fr2678 (fun _ => rfl)) u2685 (by decide))⟩⟩⟩
                                    · refine s_iconst (v := 0) kx_197_477 (by decide) ?_
                                      have hk2695 : M2631 63 4 = v2629 := ((fr2631 63 4 rfl).trans v2629e)
                                      have hk2696 : M2631 63 9 = v2644 := v2644e
                                      exact s_iret kx_197_478 (Or.inr ⟨kq_197, by omega⟩) ⟨_, _, rfl, rfl, hI2631, hFm2631, ⟨by omega, by omega, (LXp.fr (LXp.fr hX fr2 rfl) fr2631 rfl), (by omega), (by omega), ⟨(Or.inl (by omega)), (KP.fr (KP.fr (KP.refl (M := M)) fr2 (fun _ => rfl)) fr2631 (fun _ => rfl))⟩⟩⟩
                                  · replace v2642p := v2642p.resolve_left (by omega)
                                    refine s_aload_n kx_197_461 rfl ?_
                                    refine s_iconst (v := 1) kx_197_462 (by decide) ?_
                                    refine s_aload_n kx_197_463 rfl ?_
                                    refine r_getK (k := 63) (f := 4) kx_197_464 kp_197_23 (tk_63 hT) kf_12_4 (fun _ => rfl) ((fr2631 63 4 rfl).trans v2629e) ?_
                                    refine s_callV2 (k := 63) (s1 := 3) (s2 := 0) (as := [(0, v2629), (0, 1)]) (rest := []) kx_197_467 kp_197_263 (Or.inl rfl) rfl (tk_63 hT) ki_176 kcl_176 rfl rfl (by decide) (m_176 (d := d + 1) (kind := 1) (place := v2629) hT hI2631 (by omega)) (kV (fun M2698 hI2698 fr2698 v2697p => ?_))
                                    have hFm2698 := hFm2631.call fr2698 rfl
                                    have tr2699 := (fr2698 63 3 rfl)
                                    have tr2700 := (fr2698 63 4 rfl)
                                    have tr2701 := (fr2698 63 5 rfl)
                                    have tr2702 := (fr2698 63 35 rfl)
                                    have tr2703 := (fr2698 63 42 rfl)
                                    have tr2704 := (fr2698 63 43 rfl)
                                    have tr2705 := (fr2698 63 45 rfl)
                                    have tr2706 := rg_63_9 hI2698
                                    refine s_aload_n kx_197_470 rfl ?_
                                    refine r_getI (k := 63) (f := 9) kx_197_471 kp_197_39 (tk_63 hT) kf_12_9 (fun _ => rfl) (rg_63_9 hI2698) (fun v2707 v2707e v2707a v2707b => ?_)
                                    refine s_if_le (t := 479) kx_197_474 (by decide) (fun hc2708 => ?_) (fun hc2708 => ?_)
                                    · refine s_aload_n kx_197_479 rfl ?_
                                      refine s_iconst (v := 1) kx_197_480 (by decide) ?_
                                      refine s_callV2 (k := 63) (s1 := 2) (s2 := 0) (as := [(0, 1)]) (rest := []) kx_197_481 kp_197_370 (Or.inl rfl) rfl (tk_63 hT) ki_191 kcl_191 rfl rfl (by decide) (m_191 (d := d) (least := 1) hT hI2698 (PI.fr (PI.fr (PI.fr hP fr2 rfl) fr2631 rfl) fr2698 rfl) (by omega) (by omega) (by omega)) (kV (fun M2710 hI2710 fr2710 v2709p => ?_))
                                      have hFm2710 := hFm2698.call fr2710 rfl
                                      have tr2711 := (fr2710 63 3 rfl)
                                      have tr2712 := (fr2710 63 4 rfl)
                                      have tr2713 := (fr2710 63 5 rfl)
                                      have tr2714 := (fr2710 63 9 rfl)
                                      have tr2715 := (fr2710 63 42 rfl)
                                      have tr2716 := rg_63_9 hI2710
                                      have hd2717 := PI.deep v2709p.1
                                      have hs2718 := PI.small v2709p.1 (rg_63_43 hI2710).2 (by decide)
                                      have hs2718a := hs2718.1
                                      have hs2718b := hs2718.2.1
                                      have hs2718c := rg_63_45 hI2710
                                      have hK2719 := KP.trans (KP.fr (KP.fr (KP.fr (KP.refl (M := M)) fr2 (fun _ => rfl)) fr2631 (fun _ => rfl)) fr2698 (fun _ => rfl)) ((fr2698 63 36 rfl).trans ((fr2631 63 36 rfl).trans (fr2 63 36 rfl))) v2709p.2
                                      have hk852720 : M2710 85 ((v13 - 1)).toNat = v14 := ((fr2710 85 _ rfl).trans ((fr2698 85 _ rfl).trans ((fr2631 85 _ rfl).trans v14e)))
                                      refine s_aload_n kx_197_484 rfl ?_
                                      refine r_getR (k := 63) (f := 37) (k2 := 85) kx_197_485 kp_197_124 (tk_63 hT) kf_12_37 (by decide) (rq_63_37 hI2710) ?_
                                      refine s_iload_n kx_197_488 rfl ?_
                                      refine s_iload_n kx_197_489 rfl ?_
                                      refine s_iconst (v := 3) kx_197_490 (by decide) ?_
                                      refine s_icmp_ne (t := 498) kx_197_491 (by decide) (fun hc2721 => absurd hc2721 (by omega)) (fun hc2721 => ?_)
                                      refine s_iconst (v := 4) kx_197_494 (by decide) ?_
                                      refine s_goto (t := 499) kx_197_495 (by decide) ?_
                                      refine r_ast (k := 85) kx_197_499 (tk_85 hT) ⟨by omega, by omega⟩ hI2710 (ru_85 (by omega) (by omega)) (fun M2722 hI2722 u2722 => ?_)
                                      have hFm2722 := hFm2710.up u2722 rfl
                                      have tr2723 := (u2722.2 63 3 (by omega))
                                      have tr2724 := (u2722.2 63 4 (by omega))
                                      have tr2725 := (u2722.2 63 5 (by omega))
                                      have tr2726 := (u2722.2 63 9 (by omega))
                                      have tr2727 := (u2722.2 63 35 (by omega))
                                      have tr2728 := (u2722.2 63 42 (by omega))
                                      have tr2729 := (u2722.2 63 43 (by omega))
                                      have tr2730 := (u2722.2 63 45 (by omega))
                                      refine s_aload_n kx_197_500 rfl ?_
                                      refine r_getR (k := 63) (f := 38) (k2 := 86) kx_197_501 kp_197_127 (tk_63 hT) kf_12_38 (by decide) (rq_63_38 hI2722) ?_
                                      refine s_iload_n kx_197_504 rfl ?_
                                      refine s_iconst (v := 0) kx_197_505 (by decide) ?_
                                      refine r_ast (k := 86) kx_197_506 (tk_86 hT) ⟨by omega, by omega⟩ hI2722 (ru_86 (by omega) (by omega)) (fun M2731 hI2731 u2731 => ?_)
                                      have hFm2731 := hFm2722.up u2731 rfl
                                      have tr2732 := (u2731.2 63 3 (by omega))
                                      have tr2733 := (u2731.2 63 4 (by omega))
                                      have tr2734 := (u2731.2 63 5 (by omega))
                                      have tr2735 := (u2731.2 63 9 (by omega))
                                      have tr2736 := (u2731.2 63 35 (by omega))
                                      have tr2737 := (u2731.2 63 42 (by omega))
                                      have tr2738 := (u2731.2 63 43 (by omega))
                                      have tr2739 := (u2731.2 63 45 (by omega))
                                      refine s_aload_n kx_197_507 rfl ?_
                                      refine s_callV2 (k := 63) (s1 := 1) (s2 := 0) (as := []) (rest := []) kx_197_508 kp_197_286 (Or.inl rfl) rfl (tk_63 hT) ki_180 kcl_180 rfl rfl (by decide) (m_180 (d := d) hT hI2731) (kV (fun M2741 hI2741 fr2741 v2740p => ?_))
                                      have hFm2741 := hFm2731.call fr2741 rfl
                                      have tr2742 := (fr2741 63 9 rfl)
                                      have tr2743 := (fr2741 63 35 rfl)
                                      have tr2744 := (fr2741 63 42 rfl)
                                      have tr2745 := (fr2741 63 43 rfl)
                                      have tr2746 := (fr2741 63 45 rfl)
                                      have tr2747 := rg_63_9 hI2741
                                      refine s_aload_n kx_197_511 rfl ?_
                                      refine s_iconst (v := 0) kx_197_512 (by decide) ?_
                                      refine r_put (k := 63) (f := 46) kx_197_513 kp_197_152 (tk_63 hT) kf_12_46 rfl (by decide) (by decide) hI2741 (ru_63_46 (by omega) (by omega)) (fun M2748 hI2748 u2748 => ?_)
                                      have hFm2748 := hFm2741.up u2748 rfl
                                      have tr2749 := (u2748.2 63 3 (by omega))
                                      have tr2750 := (u2748.2 63 4 (by omega))
                                      have tr2751 := (u2748.2 63 5 (by omega))
                                      have tr2752 := (u2748.2 63 9 (by omega))
                                      have tr2753 := (u2748.2 63 35 (by omega))
                                      have tr2754 := (u2748.2 63 42 (by omega))
                                      have tr2755 := (u2748.2 63 43 (by omega))
                                      have tr2756 := (u2748.2 63 45 (by omega))
                                      refine s_iconst (v := 1) kx_197_516 (by decide) ?_
                                      have hk2757 : M2748 63 9 = v2707 := ((u2748.2 63 9 (by omega)).trans ((fr2741 63 9 rfl).trans ((u2731.2 63 9 (by omega)).trans ((u2722.2 63 9 (by omega)).trans ((fr2710 63 9 rfl).trans v2707e)))))
                                      exact s_iret kx_197_517 (Or.inr ⟨kq_197, by omega⟩) ⟨_, _, rfl, rfl, hI2748, hFm2748, ⟨by omega, by omega, (LXp.up (show LXp M2741 from v2740p.2) u2748 (by decide)), (by omega), (by omega), ⟨(Or.inr (Or.inr ⟨rfl, by omega, Or.inl ⟨u2748.1, PI.to7 (PI.fr (PI.fr (PI.phase (PI.comma v2709p.1 (by omega) (by omega) u2722) (Or.inr (by omega)) (by omega) u2731) fr2741 rfl) (Up.fr u2748) rfl) (by omega)⟩⟩)), (KP.up (KP.fr (KP.up (KP.up hK2719 u2722 (by decide)) u2731 (by decide)) fr2741 (fun _ => rfl)) u2748 (by decide))⟩⟩⟩
                                    · refine s_iconst (v := 0) kx_197_477 (by decide) ?_
                                      have hk2758 : M2698 63 4 = v2629 := ((fr2698 63 4 rfl).trans ((fr2631 63 4 rfl).trans v2629e))
                                      have hk2759 : M2698 63 9 = v2707 := v2707e
                                      exact s_iret kx_197_478 (Or.inr ⟨kq_197, by omega⟩) ⟨_, _, rfl, rfl, hI2698, hFm2698, ⟨by omega, by omega, (LXp.fr (LXp.fr (LXp.fr hX fr2 rfl) fr2631 rfl) fr2698 rfl), (by omega), (by omega), ⟨(Or.inl (by omega)), (KP.fr (KP.fr (KP.fr (KP.refl (M := M)) fr2 (fun _ => rfl)) fr2631 (fun _ => rfl)) fr2698 (fun _ => rfl))⟩⟩⟩
                                · refine s_iload_n kx_197_446 rfl ?_
                                  refine s_bipush (v := 6) kx_197_447 (by decide) ?_
                                  refine s_icmp_ne (t := 518) kx_197_449 (by decide) (fun hc2760 => ?_) (fun hc2760 => ?_)
                                  · refine s_aload_n kx_197_518 rfl ?_
                                    refine s_iload_n kx_197_519 rfl ?_
                                    refine s_iconst (v := 5) kx_197_520 (by decide) ?_
                                    have jn2765 : ∀ (y2764 : Int), (41 ≤ y2764) → (y2764 ≤ 93) → cP k_P xs Ln (d + 2) 197 531 [(0, rf 63), (1, (0, (v13 - 1))), (2, (0, v14))] [(0, y2764), rf 63] (T, M2631) (qW T M fS_197_m 0 (fun v M1 => 0 ≤ v ∧ v ≤ 1 ∧ (LXp M1 ∧ M 63 4 ≤ M1 63 4 ∧ M 63 9 ≤ M1 63 9 ∧ (GOd M M1 c a v ∧ KP M M1)))) := by
                                      intro y2764 a2766 a2767
                                      refine s_callV2 (k := 63) (s1 := 2) (s2 := 0) (as := [(0, y2764)]) (rest := []) kx_197_531 kp_197_283 (Or.inl rfl) rfl (tk_63 hT) ki_181 kcl_181 rfl rfl (by decide) (m_181 (d := d + 1) (c := y2764) hT hI2631) (kF (fun v2768 v2768p => ?_))
                                      refine s_if_ne (t := 546) kx_197_534 (by decide) (fun hc2769 => ?_) (fun hc2769 => ?_)
                                      · replace v2768p := v2768p.resolve_right (by omega)
                                        refine s_aload_n kx_197_546 rfl ?_
                                        refine r_getI (k := 63) (f := 9) kx_197_547 kp_197_39 (tk_63 hT) kf_12_9 (fun _ => rfl) (rg_63_9 hI2631) (fun v2770 v2770e v2770a v2770b => ?_)
                                        refine s_if_le (t := 555) kx_197_550 (by decide) (fun hc2771 => ?_) (fun hc2771 => ?_)
                                        · refine s_aload_n kx_197_555 rfl ?_
                                          refine s_iconst (v := 1) kx_197_556 (by decide) ?_
                                          refine s_callV2 (k := 63) (s1 := 2) (s2 := 0) (as := [(0, 1)]) (rest := []) kx_197_557 kp_197_370 (Or.inl rfl) rfl (tk_63 hT) ki_191 kcl_191 rfl rfl (by decide) (m_191 (d := d) (least := 1) hT hI2631 (PI.fr (PI.fr hP fr2 rfl) fr2631 rfl) (by omega) (by omega) (by omega)) (kV (fun M2773 hI2773 fr2773 v2772p => ?_))
                                          have hFm2773 := hFm2631.call fr2773 rfl
                                          have tr2774 := (fr2773 63 3 rfl)
                                          have tr2775 := (fr2773 63 4 rfl)
                                          have tr2776 := (fr2773 63 5 rfl)
                                          have tr2777 := (fr2773 63 9 rfl)
                                          have tr2778 := (fr2773 63 42 rfl)
                                          have tr2779 := rg_63_9 hI2773
                                          have hd2780 := PI.deep v2772p.1
                                          have hs2781 := PI.small v2772p.1 (rg_63_43 hI2773).2 (by decide)
                                          have hs2781a := hs2781.1
                                          have hs2781b := hs2781.2.1
                                          have hs2781c := rg_63_45 hI2773
                                          have hK2782 := KP.trans (KP.fr (KP.fr (KP.refl (M := M)) fr2 (fun _ => rfl)) fr2631 (fun _ => rfl)) ((fr2631 63 36 rfl).trans (fr2 63 36 rfl)) v2772p.2
                                          refine s_aload_n kx_197_560 rfl ?_
                                          refine s_dup kx_197_561 rfl ?_
                                          refine r_getK (k := 63) (f := 42) kx_197_562 kp_197_140 (tk_63 hT) kf_12_42 (fun _ => rfl) ((fr2773 63 42 rfl).trans ((fr2631 63 42 rfl).trans v13e)) ?_
                                          refine s_iconst (v := 1) kx_197_565 (by decide) ?_
                                          refine r_sub kx_197_566 ⟨by omega, by omega⟩ ?_
                                          refine r_put (k := 63) (f := 42) kx_197_567 kp_197_140 (tk_63 hT) kf_12_42 rfl (by decide) (by decide) hI2773 (ru_63_42 (by omega) (by omega)) (fun M2783 hI2783 u2783 => ?_)
                                          have hFm2783 := hFm2773.up u2783 rfl
                                          have tr2784 := (u2783.2 63 3 (by omega))
                                          have tr2785 := (u2783.2 63 4 (by omega))
                                          have tr2786 := (u2783.2 63 5 (by omega))
                                          have tr2787 := (u2783.2 63 9 (by omega))
                                          have tr2788 := (u2783.2 63 35 (by omega))
                                          have tr2789 := u2783.1
                                          have tr2790 := (u2783.2 63 43 (by omega))
                                          have tr2791 := (u2783.2 63 45 (by omega))
                                          have hcl2792 := PI.close v2772p.1 (by decide) (f := (v13 - 1)) (by omega) ((fr2773 85 _ rfl).trans ((fr2631 85 _ rfl).trans v14e)) (by omega) u2783 (by omega)
                                          have hcl2792d := hcl2792.2.2.1
                                          have hcl2792q := PI.deep hcl2792.1
                                          refine s_aload_n kx_197_570 rfl ?_
                                          refine s_dup kx_197_571 rfl ?_
                                          refine r_getI (k := 63) (f := 43) kx_197_572 kp_197_143 (tk_63 hT) kf_12_43 (fun _ => rfl) (rg_63_43 hI2783) (fun v2793 v2793e v2793a v2793b => ?_)
                                          refine s_iconst (v := 1) kx_197_575 (by decide) ?_
                                          refine r_sub kx_197_576 ⟨by omega, by omega⟩ ?_
                                          have hcl2792e := PI.e_le hcl2792.1
                                          refine r_put (k := 63) (f := 43) kx_197_577 kp_197_143 (tk_63 hT) kf_12_43 rfl (by decide) (by decide) hI2783 (ru_63_43 (by omega) (by omega)) (fun M2794 hI2794 u2794 => ?_)
                                          have hFm2794 := hFm2783.up u2794 rfl
                                          have tr2795 := (u2794.2 63 3 (by omega))
                                          have tr2796 := (u2794.2 63 4 (by omega))
                                          have tr2797 := (u2794.2 63 5 (by omega))
                                          have tr2798 := (u2794.2 63 9 (by omega))
                                          have tr2799 := (u2794.2 63 35 (by omega))
                                          have tr2800 := (u2794.2 63 42 (by omega))
                                          have tr2801 := u2794.1
                                          have tr2802 := (u2794.2 63 45 (by omega))
                                          have hP2803 := (PI.opn (e' := 0) hcl2792.1 u2794 (by omega))
                                          refine s_iload_n kx_197_580 rfl ?_
                                          refine s_iconst (v := 4) kx_197_581 (by decide) ?_
                                          refine s_icmp_ne (t := 596) kx_197_582 (by decide) (fun hc2804 => ?_) (fun hc2804 => ?_)
                                          · have hP2805 := PI.comp0 hP2803 (by omega)
                                            refine s_iload_n kx_197_596 rfl ?_
                                            refine s_iconst (v := 5) kx_197_597 (by decide) ?_
                                            refine s_icmp_ne (t := 613) kx_197_598 (by decide) (fun hc2806 => ?_) (fun hc2806 => ?_)
                                            · refine s_aload_n kx_197_613 rfl ?_
                                              refine s_callV2 (k := 63) (s1 := 1) (s2 := 0) (as := []) (rest := []) kx_197_614 kp_197_286 (Or.inl rfl) rfl (tk_63 hT) ki_180 kcl_180 rfl rfl (by decide) (m_180 (d := d) hT hI2794) (kV (fun M2808 hI2808 fr2808 v2807p => ?_))
                                              have hFm2808 := hFm2794.call fr2808 rfl
                                              have tr2809 := (fr2808 63 9 rfl)
                                              have tr2810 := (fr2808 63 35 rfl)
                                              have tr2811 := (fr2808 63 42 rfl)
                                              have tr2812 := (fr2808 63 43 rfl)
                                              have tr2813 := (fr2808 63 45 rfl)
                                              have tr2814 := rg_63_9 hI2808
                                              refine s_iconst (v := 1) kx_197_617 (by decide) ?_
                                              have hk2815 : M2808 63 9 = v2770 := ((fr2808 63 9 rfl).trans ((u2794.2 63 9 (by omega)).trans ((u2783.2 63 9 (by omega)).trans ((fr2773 63 9 rfl).trans v2770e))))
                                              exact s_iret kx_197_618 (Or.inr ⟨kq_197, by omega⟩) ⟨_, _, rfl, rfl, hI2808, hFm2808, ⟨by omega, by omega, (show LXp M2808 from v2807p.2), (by omega), (by omega), ⟨(Or.inr (Or.inr ⟨rfl, by omega, Or.inr ⟨((fr2808 63 46 rfl).trans ((u2794.2 63 46 (by omega)).trans ((u2783.2 63 46 (by omega)).trans ((fr2773 63 46 rfl).trans ((fr2631 63 46 rfl).trans (fr2 63 46 rfl)))))), (B0.fr (B0.up (show B0 M2783 from hcl2792.2.1) u2794 (by decide)) fr2808 rfl (fun _ => rfl)), PI.to7 (PI.fr hP2805 fr2808 rfl) (by omega)⟩⟩)), (KP.fr (KP.up (KP.up hK2782 u2783 (by decide)) u2794 (by decide)) fr2808 (fun _ => rfl))⟩⟩⟩
                                            · refine s_aload_n kx_197_601 rfl ?_
                                              refine r_getR (k := 63) (f := 38) (k2 := 86) kx_197_602 kp_197_127 (tk_63 hT) kf_12_38 (by decide) (rq_63_38 hI2794) ?_
                                              refine s_aload_n kx_197_605 rfl ?_
                                              refine r_getK (k := 63) (f := 42) kx_197_606 kp_197_140 (tk_63 hT) kf_12_42 (fun _ => rfl) ((u2794.2 63 42 (by omega)).trans u2783.1) ?_
                                              refine s_iconst (v := 1) kx_197_609 (by decide) ?_
                                              refine r_sub kx_197_610 ⟨by omega, by omega⟩ ?_
                                              refine s_iconst (v := 2) kx_197_611 (by decide) ?_
                                              refine r_ast (k := 86) kx_197_612 (tk_86 hT) ⟨by omega, by omega⟩ hI2794 (ru_86 (by omega) (by omega)) (fun M2816 hI2816 u2816 => ?_)
                                              have hFm2816 := hFm2794.up u2816 rfl
                                              have tr2817 := (u2816.2 63 3 (by omega))
                                              have tr2818 := (u2816.2 63 4 (by omega))
                                              have tr2819 := (u2816.2 63 5 (by omega))
                                              have tr2820 := (u2816.2 63 9 (by omega))
                                              have tr2821 := (u2816.2 63 35 (by omega))
                                              have tr2822 := (u2816.2 63 42 (by omega))
                                              have tr2823 := (u2816.2 63 43 (by omega))
                                              have tr2824 := (u2816.2 63 45 (by omega))
                                              refine s_aload_n kx_197_613 rfl ?_
                                              refine s_callV2 (k := 63) (s1 := 1) (s2 := 0) (as := []) (rest := []) kx_197_614 kp_197_286 (Or.inl rfl) rfl (tk_63 hT) ki_180 kcl_180 rfl rfl (by decide) (m_180 (d := d) hT hI2816) (kV (fun M2826 hI2826 fr2826 v2825p => ?_))
                                              have hFm2826 := hFm2816.call fr2826 rfl
                                              have tr2827 := (fr2826 63 9 rfl)
                                              have tr2828 := (fr2826 63 35 rfl)
                                              have tr2829 := (fr2826 63 42 rfl)
                                              have tr2830 := (fr2826 63 43 rfl)
                                              have tr2831 := (fr2826 63 45 rfl)
                                              have tr2832 := rg_63_9 hI2826
                                              refine s_iconst (v := 1) kx_197_617 (by decide) ?_
                                              have hk2833 : M2826 63 9 = v2770 := ((fr2826 63 9 rfl).trans ((u2816.2 63 9 (by omega)).trans ((u2794.2 63 9 (by omega)).trans ((u2783.2 63 9 (by omega)).trans ((fr2773 63 9 rfl).trans v2770e)))))
                                              exact s_iret kx_197_618 (Or.inr ⟨kq_197, by omega⟩) ⟨_, _, rfl, rfl, hI2826, hFm2826, ⟨by omega, by omega, (show LXp M2826 from v2825p.2), (by omega), (by omega), ⟨(Or.inr (Or.inr ⟨rfl, by omega, Or.inr ⟨((fr2826 63 46 rfl).trans ((u2816.2 63 46 (by omega)).trans ((u2794.2 63 46 (by omega)).trans ((u2783.2 63 46 (by omega)).trans ((fr2773 63 46 rfl).trans ((fr2631 63 46 rfl).trans (fr2 63 46 rfl))))))), (B0.fr (B0.up (B0.up (show B0 M2783 from hcl2792.2.1) u2794 (by decide)) u2816 ⟨by decide, Or.inl (by decide)⟩) fr2826 rfl (fun _ => rfl)), PI.to7 (PI.fr (PI.phase hP2805 (Or.inl (by decide)) (by omega) u2816) fr2826 rfl) (by omega)⟩⟩)), (KP.fr (KP.up (KP.up (KP.up hK2782 u2783 (by decide)) u2794 (by decide)) u2816 (by decide)) fr2826 (fun _ => rfl))⟩⟩⟩
                                          · refine s_aload_n kx_197_585 rfl ?_
                                            refine s_aload_n kx_197_586 rfl ?_
                                            refine r_getR (k := 63) (f := 40) (k2 := 88) kx_197_587 kp_197_134 (tk_63 hT) kf_12_40 (by decide) (rq_63_40 hI2794) ?_
                                            refine s_iload_n kx_197_590 rfl ?_
                                            refine r_ald (k := 88) kx_197_591 (tk_88 hT) ⟨by omega, by omega⟩ (rg_88 hI2794) (fun v2834 v2834e v2834a v2834b => ?_)
                                            have hpr2835 : v2834 = M2773 88 ((v13 - 1)).toNat := (v2834e).symm.trans ((u2794.2 88 _ (by omega)).trans (u2783.2 88 _ (by omega)))
                                            refine s_iconst (v := 0) kx_197_592 (by decide) ?_
                                            refine s_callV2 (k := 63) (s1 := 3) (s2 := 0) (as := [(0, 0), (0, v2834)]) (rest := []) kx_197_593 kp_197_352 (Or.inl rfl) rfl (tk_63 hT) ki_189 kcl_189 rfl rfl (by decide) (m_189 (d := d + 1) (sort := v2834) (v_ := 0) hT hI2794 (by omega) (by omega)) (kV (fun M2837 hI2837 fr2837 v2836p => ?_))
                                            have hFm2837 := hFm2794.call fr2837 rfl
                                            have tr2838 := (fr2837 63 3 rfl)
                                            have tr2839 := (fr2837 63 4 rfl)
                                            have tr2840 := (fr2837 63 5 rfl)
                                            have tr2841 := (fr2837 63 9 rfl)
                                            have tr2842 := (fr2837 63 42 rfl)
                                            have tr2843 := (fr2837 63 43 rfl)
                                            have tr2844 := (fr2837 63 45 rfl)
                                            have tr2845 := rg_63_9 hI2837
                                            have hP2846 := PI.code4 hP2803 (by omega) (hcl2792.2.2.2 (by omega)) fr2837 v2836p.1 (v2836p.2.1.trans hpr2835) v2836p.2.2
                                            have hK2847 := KP.add (KP.up (KP.up hK2782 u2783 (by decide)) u2794 (by decide)) ((u2794.2 63 36 (by omega)).trans ((u2783.2 63 36 (by omega)).trans ((fr2773 63 36 rfl).trans ((fr2631 63 36 rfl).trans (fr2 63 36 rfl))))) ⟨(rg_63_35 hI2794).1, by omega⟩ (rg_63_36 hI2794).1 v2836p.2.2
                                            refine s_iload_n kx_197_596 rfl ?_
                                            refine s_iconst (v := 5) kx_197_597 (by decide) ?_
                                            refine s_icmp_ne (t := 613) kx_197_598 (by decide) (fun hc2848 => ?_) (fun hc2848 => absurd hc2848 (by omega))
                                            refine s_aload_n kx_197_613 rfl ?_
                                            refine s_callV2 (k := 63) (s1 := 1) (s2 := 0) (as := []) (rest := []) kx_197_614 kp_197_286 (Or.inl rfl) rfl (tk_63 hT) ki_180 kcl_180 rfl rfl (by decide) (m_180 (d := d) hT hI2837) (kV (fun M2850 hI2850 fr2850 v2849p => ?_))
                                            have hFm2850 := hFm2837.call fr2850 rfl
                                            have tr2851 := (fr2850 63 9 rfl)
                                            have tr2852 := (fr2850 63 35 rfl)
                                            have tr2853 := (fr2850 63 42 rfl)
                                            have tr2854 := (fr2850 63 43 rfl)
                                            have tr2855 := (fr2850 63 45 rfl)
                                            have tr2856 := rg_63_9 hI2850
                                            refine s_iconst (v := 1) kx_197_617 (by decide) ?_
                                            have hk2857 : M2850 63 9 = v2770 := ((fr2850 63 9 rfl).trans ((fr2837 63 9 rfl).trans ((u2794.2 63 9 (by omega)).trans ((u2783.2 63 9 (by omega)).trans ((fr2773 63 9 rfl).trans v2770e)))))
                                            exact s_iret kx_197_618 (Or.inr ⟨kq_197, by omega⟩) ⟨_, _, rfl, rfl, hI2850, hFm2850, ⟨by omega, by omega, (show LXp M2850 from v2849p.2), (by omega), (by omega), ⟨(Or.inr (Or.inr ⟨rfl, by omega, Or.inr ⟨((fr2850 63 46 rfl).trans ((fr2837 63 46 rfl).trans ((u2794.2 63 46 (by omega)).trans ((u2783.2 63 46 (by omega)).trans ((fr2773 63 46 rfl).trans ((fr2631 63 46 rfl).trans (fr2 63 46 rfl))))))), (B0.fr (B0.fr (B0.up (show B0 M2783 from hcl2792.2.1) u2794 (by decide)) fr2837 rfl (fun _ => rfl)) fr2850 rfl (fun _ => rfl)), PI.to7 (PI.fr hP2846 fr2850 rfl) (by omega)⟩⟩)), (KP.fr hK2847 fr2850 (fun _ => rfl))⟩⟩⟩
                                        · refine s_iconst (v := 0) kx_197_553 (by decide) ?_
                                          have hk2858 : M2631 63 4 = v2629 := ((fr2631 63 4 rfl).trans v2629e)
                                          have hk2859 : M2631 63 9 = v2770 := v2770e
                                          exact s_iret kx_197_554 (Or.inr ⟨kq_197, by omega⟩) ⟨_, _, rfl, rfl, hI2631, hFm2631, ⟨by omega, by omega, (LXp.fr (LXp.fr hX fr2 rfl) fr2631 rfl), (by omega), (by omega), ⟨(Or.inl (by omega)), (KP.fr (KP.fr (KP.refl (M := M)) fr2 (fun _ => rfl)) fr2631 (fun _ => rfl))⟩⟩⟩
                                      · replace v2768p := v2768p.resolve_left (by omega)
                                        refine s_aload_n kx_197_537 rfl ?_
                                        refine s_iconst (v := 1) kx_197_538 (by decide) ?_
                                        refine s_aload_n kx_197_539 rfl ?_
                                        refine r_getK (k := 63) (f := 4) kx_197_540 kp_197_23 (tk_63 hT) kf_12_4 (fun _ => rfl) ((fr2631 63 4 rfl).trans v2629e) ?_
                                        refine s_callV2 (k := 63) (s1 := 3) (s2 := 0) (as := [(0, v2629), (0, 1)]) (rest := []) kx_197_543 kp_197_263 (Or.inl rfl) rfl (tk_63 hT) ki_176 kcl_176 rfl rfl (by decide) (m_176 (d := d + 1) (kind := 1) (place := v2629) hT hI2631 (by omega)) (kV (fun M2861 hI2861 fr2861 v2860p => ?_))
                                        have hFm2861 := hFm2631.call fr2861 rfl
                                        have tr2862 := (fr2861 63 3 rfl)
                                        have tr2863 := (fr2861 63 4 rfl)
                                        have tr2864 := (fr2861 63 5 rfl)
                                        have tr2865 := (fr2861 63 35 rfl)
                                        have tr2866 := (fr2861 63 42 rfl)
                                        have tr2867 := (fr2861 63 43 rfl)
                                        have tr2868 := (fr2861 63 45 rfl)
                                        have tr2869 := rg_63_9 hI2861
                                        refine s_aload_n kx_197_546 rfl ?_
                                        refine r_getI (k := 63) (f := 9) kx_197_547 kp_197_39 (tk_63 hT) kf_12_9 (fun _ => rfl) (rg_63_9 hI2861) (fun v2870 v2870e v2870a v2870b => ?_)
                                        refine s_if_le (t := 555) kx_197_550 (by decide) (fun hc2871 => ?_) (fun hc2871 => ?_)
                                        · refine s_aload_n kx_197_555 rfl ?_
                                          refine s_iconst (v := 1) kx_197_556 (by decide) ?_
                                          refine s_callV2 (k := 63) (s1 := 2) (s2 := 0) (as := [(0, 1)]) (rest := []) kx_197_557 kp_197_370 (Or.inl rfl) rfl (tk_63 hT) ki_191 kcl_191 rfl rfl (by decide) (m_191 (d := d) (least := 1) hT hI2861 (PI.fr (PI.fr (PI.fr hP fr2 rfl) fr2631 rfl) fr2861 rfl) (by omega) (by omega) (by omega)) (kV (fun M2873 hI2873 fr2873 v2872p => ?_))
                                          have hFm2873 := hFm2861.call fr2873 rfl
                                          have tr2874 := (fr2873 63 3 rfl)
                                          have tr2875 := (fr2873 63 4 rfl)
                                          have tr2876 := (fr2873 63 5 rfl)
                                          have tr2877 := (fr2873 63 9 rfl)
                                          have tr2878 := (fr2873 63 42 rfl)
                                          have tr2879 := rg_63_9 hI2873
                                          have hd2880 := PI.deep v2872p.1
                                          have hs2881 := PI.small v2872p.1 (rg_63_43 hI2873).2 (by decide)
                                          have hs2881a := hs2881.1
                                          have hs2881b := hs2881.2.1
                                          have hs2881c := rg_63_45 hI2873
                                          have hK2882 := KP.trans (KP.fr (KP.fr (KP.fr (KP.refl (M := M)) fr2 (fun _ => rfl)) fr2631 (fun _ => rfl)) fr2861 (fun _ => rfl)) ((fr2861 63 36 rfl).trans ((fr2631 63 36 rfl).trans (fr2 63 36 rfl))) v2872p.2
                                          refine s_aload_n kx_197_560 rfl ?_
                                          refine s_dup kx_197_561 rfl ?_
                                          refine r_getK (k := 63) (f := 42) kx_197_562 kp_197_140 (tk_63 hT) kf_12_42 (fun _ => rfl) ((fr2873 63 42 rfl).trans ((fr2861 63 42 rfl).trans ((fr2631 63 42 rfl).trans v13e))) ?_
                                          refine s_iconst (v := 1) kx_197_565 (by decide) ?_
                                          refine r_sub kx_197_566 ⟨by omega, by omega⟩ ?_
                                          refine r_put (k := 63) (f := 42) kx_197_567 kp_197_140 (tk_63 hT) kf_12_42 rfl (by decide) (by decide) hI2873 (ru_63_42 (by omega) (by omega)) (fun M2883 hI2883 u2883 => ?_)
                                          have hFm2883 := hFm2873.up u2883 rfl
                                          have tr2884 := (u2883.2 63 3 (by omega))
                                          have tr2885 := (u2883.2 63 4 (by omega))
                                          have tr2886 := (u2883.2 63 5 (by omega))
                                          have tr2887 := (u2883.2 63 9 (by omega))
                                          have tr2888 := (u2883.2 63 35 (by omega))
                                          have tr2889 := u2883.1
                                          have tr2890 := (u2883.2 63 43 (by omega))
                                          have tr2891 := (u2883.2 63 45 (by omega))
                                          have hcl2892 := PI.close v2872p.1 (by decide) (f := (v13 - 1)) (by omega) ((fr2873 85 _ rfl).trans ((fr2861 85 _ rfl).trans ((fr2631 85 _ rfl).trans v14e))) (by omega) u2883 (by omega)
                                          have hcl2892d := hcl2892.2.2.1
                                          have hcl2892q := PI.deep hcl2892.1
                                          refine s_aload_n kx_197_570 rfl ?_
                                          refine s_dup kx_197_571 rfl ?_
                                          refine r_getI (k := 63) (f := 43) kx_197_572 kp_197_143 (tk_63 hT) kf_12_43 (fun _ => rfl) (rg_63_43 hI2883) (fun v2893 v2893e v2893a v2893b => ?_)
                                          refine s_iconst (v := 1) kx_197_575 (by decide) ?_
                                          refine r_sub kx_197_576 ⟨by omega, by omega⟩ ?_
                                          have hcl2892e := PI.e_le hcl2892.1
                                          refine r_put (k := 63) (f := 43) kx_197_577 kp_197_143 (tk_63 hT) kf_12_43 rfl (by decide) (by decide) hI2883 (ru_63_43 (by omega) (by omega)) (fun M2894 hI2894 u2894 => ?_)
                                          have hFm2894 := hFm2883.up u2894 rfl
                                          have tr2895 := (u2894.2 63 3 (by omega))
                                          have tr2896 := (u2894.2 63 4 (by omega))
                                          have tr2897 := (u2894.2 63 5 (by omega))
                                          have tr2898 := (u2894.2 63 9 (by omega))
                                          have tr2899 := (u2894.2 63 35 (by omega))
                                          have tr2900 := (u2894.2 63 42 (by omega))
                                          have tr2901 := u2894.1
                                          have tr2902 := (u2894.2 63 45 (by omega))
                                          have hP2903 := (PI.opn (e' := 0) hcl2892.1 u2894 (by omega))
                                          refine s_iload_n kx_197_580 rfl ?_
                                          refine s_iconst (v := 4) kx_197_581 (by decide) ?_
                                          refine s_icmp_ne (t := 596) kx_197_582 (by decide) (fun hc2904 => ?_) (fun hc2904 => ?_)
                                          · have hP2905 := PI.comp0 hP2903 (by omega)
                                            refine s_iload_n kx_197_596 rfl ?_
                                            refine s_iconst (v := 5) kx_197_597 (by decide) ?_
                                            refine s_icmp_ne (t := 613) kx_197_598 (by decide) (fun hc2906 => ?_) (fun hc2906 => ?_)
                                            · refine s_aload_n kx_197_613 rfl ?_
                                              refine s_callV2 (k := 63) (s1 := 1) (s2 := 0) (as := []) (rest := []) kx_197_614 kp_197_286 (Or.inl rfl) rfl (tk_63 hT) ki_180 kcl_180 rfl rfl (by decide) (m_180 (d := d) hT hI2894) (kV (fun M2908 hI2908 fr2908 v2907p => ?_))
                                              have hFm2908 := hFm2894.call fr2908 rfl
                                              have tr2909 := (fr2908 63 9 rfl)
                                              have tr2910 := (fr2908 63 35 rfl)
                                              have tr2911 := (fr2908 63 42 rfl)
                                              have tr2912 := (fr2908 63 43 rfl)
                                              have tr2913 := (fr2908 63 45 rfl)
                                              have tr2914 := rg_63_9 hI2908
                                              refine s_iconst (v := 1) kx_197_617 (by decide) ?_
                                              have hk2915 : M2908 63 9 = v2870 := ((fr2908 63 9 rfl).trans ((u2894.2 63 9 (by omega)).trans ((u2883.2 63 9 (by omega)).trans ((fr2873 63 9 rfl).trans v2870e))))
                                              exact s_iret kx_197_618 (Or.inr ⟨kq_197, by omega⟩) ⟨_, _, rfl, rfl, hI2908, hFm2908, ⟨by omega, by omega, (show LXp M2908 from v2907p.2), (by omega), (by omega), ⟨(Or.inr (Or.inr ⟨rfl, by omega, Or.inr ⟨((fr2908 63 46 rfl).trans ((u2894.2 63 46 (by omega)).trans ((u2883.2 63 46 (by omega)).trans ((fr2873 63 46 rfl).trans ((fr2861 63 46 rfl).trans ((fr2631 63 46 rfl).trans (fr2 63 46 rfl))))))), (B0.fr (B0.up (show B0 M2883 from hcl2892.2.1) u2894 (by decide)) fr2908 rfl (fun _ => rfl)), PI.to7 (PI.fr hP2905 fr2908 rfl) (by omega)⟩⟩)), (KP.fr (KP.up (KP.up hK2882 u2883 (by decide)) u2894 (by decide)) fr2908 (fun _ => rfl))⟩⟩⟩
                                            · refine s_aload_n kx_197_601 rfl ?_
                                              refine r_getR (k := 63) (f := 38) (k2 := 86) kx_197_602 kp_197_127 (tk_63 hT) kf_12_38 (by decide) (rq_63_38 hI2894) ?_
                                              refine s_aload_n kx_197_605 rfl ?_
                                              refine r_getK (k := 63) (f := 42) kx_197_606 kp_197_140 (tk_63 hT) kf_12_42 (fun _ => rfl) ((u2894.2 63 42 (by omega)).trans u2883.1) ?_
                                              refine s_iconst (v := 1) kx_197_609 (by decide) ?_
                                              refine r_sub kx_197_610 ⟨by omega, by omega⟩ ?_
                                              refine s_iconst (v := 2) kx_197_611 (by decide) ?_
                                              refine r_ast (k := 86) kx_197_612 (tk_86 hT) ⟨by omega, by omega⟩ hI2894 (ru_86 (by omega) (by omega)) (fun M2916 hI2916 u2916 => ?_)
                                              have hFm2916 := hFm2894.up u2916 rfl
                                              have tr2917 := (u2916.2 63 3 (by omega))
                                              have tr2918 := (u2916.2 63 4 (by omega))
                                              have tr2919 := (u2916.2 63 5 (by omega))
                                              have tr2920 := (u2916.2 63 9 (by omega))
                                              have tr2921 := (u2916.2 63 35 (by omega))
                                              have tr2922 := (u2916.2 63 42 (by omega))
                                              have tr2923 := (u2916.2 63 43 (by omega))
                                              have tr2924 := (u2916.2 63 45 (by omega))
                                              refine s_aload_n kx_197_613 rfl ?_
                                              refine s_callV2 (k := 63) (s1 := 1) (s2 := 0) (as := []) (rest := []) kx_197_614 kp_197_286 (Or.inl rfl) rfl (tk_63 hT) ki_180 kcl_180 rfl rfl (by decide) (m_180 (d := d) hT hI2916) (kV (fun M2926 hI2926 fr2926 v2925p => ?_))
                                              have hFm2926 := hFm2916.call fr2926 rfl
                                              have tr2927 := (fr2926 63 9 rfl)
                                              have tr2928 := (fr2926 63 35 rfl)
                                              have tr2929 := (fr2926 63 42 rfl)
                                              have tr2930 := (fr2926 63 43 rfl)
                                              have tr2931 := (fr2926 63 45 rfl)
                                              have tr2932 := rg_63_9 hI2926
                                              refine s_iconst (v := 1) kx_197_617 (by decide) ?_
                                              have hk2933 : M2926 63 9 = v2870 := ((fr2926 63 9 rfl).trans ((u2916.2 63 9 (by omega)).trans ((u2894.2 63 9 (by omega)).trans ((u2883.2 63 9 (by omega)).trans ((fr2873 63 9 rfl).trans v2870e)))))
                                              exact s_iret kx_197_618 (Or.inr ⟨kq_197, by omega⟩) ⟨_, _, rfl, rfl, hI2926, hFm2926, ⟨by omega, by omega, (show LXp M2926 from v2925p.2), (by omega), (by omega), ⟨(Or.inr (Or.inr ⟨rfl, by omega, Or.inr ⟨((fr2926 63 46 rfl).trans ((u2916.2 63 46 (by omega)).trans ((u2894.2 63 46 (by omega)).trans ((u2883.2 63 46 (by omega)).trans ((fr2873 63 46 rfl).trans ((fr2861 63 46 rfl).trans ((fr2631 63 46 rfl).trans (fr2 63 46 rfl)))))))), (B0.fr (B0.up (B0.up (show B0 M2883 from hcl2892.2.1) u2894 (by decide)) u2916 ⟨by decide, Or.inl (by decide)⟩) fr2926 rfl (fun _ => rfl)), PI.to7 (PI.fr (PI.phase hP2905 (Or.inl (by decide)) (by omega) u2916) fr2926 rfl) (by omega)⟩⟩)), (KP.fr (KP.up (KP.up (KP.up hK2882 u2883 (by decide)) u2894 (by decide)) u2916 (by decide)) fr2926 (fun _ => rfl))⟩⟩⟩
                                          · refine s_aload_n kx_197_585 rfl ?_
                                            refine s_aload_n kx_197_586 rfl ?_
                                            refine r_getR (k := 63) (f := 40) (k2 := 88) kx_197_587 kp_197_134 (tk_63 hT) kf_12_40 (by decide) (rq_63_40 hI2894) ?_
                                            refine s_iload_n kx_197_590 rfl ?_
                                            refine r_ald (k := 88) kx_197_591 (tk_88 hT) ⟨by omega, by omega⟩ (rg_88 hI2894) (fun v2934 v2934e v2934a v2934b => ?_)
                                            have hpr2935 : v2934 = M2873 88 ((v13 - 1)).toNat := (v2934e).symm.trans ((u2894.2 88 _ (by omega)).trans (u2883.2 88 _ (by omega)))
                                            refine s_iconst (v := 0) kx_197_592 (by decide) ?_
                                            refine s_callV2 (k := 63) (s1 := 3) (s2 := 0) (as := [(0, 0), (0, v2934)]) (rest := []) kx_197_593 kp_197_352 (Or.inl rfl) rfl (tk_63 hT) ki_189 kcl_189 rfl rfl (by decide) (m_189 (d := d + 1) (sort := v2934) (v_ := 0) hT hI2894 (by omega) (by omega)) (kV (fun M2937 hI2937 fr2937 v2936p => ?_))
                                            have hFm2937 := hFm2894.call fr2937 rfl
                                            have tr2938 := (fr2937 63 3 rfl)
                                            have tr2939 := (fr2937 63 4 rfl)
                                            have tr2940 := (fr2937 63 5 rfl)
                                            have tr2941 := (fr2937 63 9 rfl)
                                            have tr2942 := (fr2937 63 42 rfl)
                                            have tr2943 := (fr2937 63 43 rfl)
                                            have tr2944 := (fr2937 63 45 rfl)
                                            have tr2945 := rg_63_9 hI2937
                                            have hP2946 := PI.code4 hP2903 (by omega) (hcl2892.2.2.2 (by omega)) fr2937 v2936p.1 (v2936p.2.1.trans hpr2935) v2936p.2.2
                                            have hK2947 := KP.add (KP.up (KP.up hK2882 u2883 (by decide)) u2894 (by decide)) ((u2894.2 63 36 (by omega)).trans ((u2883.2 63 36 (by omega)).trans ((fr2873 63 36 rfl).trans ((fr2861 63 36 rfl).trans ((fr2631 63 36 rfl).trans (fr2 63 36 rfl)))))) ⟨(rg_63_35 hI2894).1, by omega⟩ (rg_63_36 hI2894).1 v2936p.2.2
                                            refine s_iload_n kx_197_596 rfl ?_
                                            refine s_iconst (v := 5) kx_197_597 (by decide) ?_
                                            refine s_icmp_ne (t := 613) kx_197_598 (by decide) (fun hc2948 => ?_) (fun hc2948 => absurd hc2948 (by omega))
                                            refine s_aload_n kx_197_613 rfl ?_
                                            refine s_callV2 (k := 63) (s1 := 1) (s2 := 0) (as := []) (rest := []) kx_197_614 kp_197_286 (Or.inl rfl) rfl (tk_63 hT) ki_180 kcl_180 rfl rfl (by decide) (m_180 (d := d) hT hI2937) (kV (fun M2950 hI2950 fr2950 v2949p => ?_))
                                            have hFm2950 := hFm2937.call fr2950 rfl
                                            have tr2951 := (fr2950 63 9 rfl)
                                            have tr2952 := (fr2950 63 35 rfl)
                                            have tr2953 := (fr2950 63 42 rfl)
                                            have tr2954 := (fr2950 63 43 rfl)
                                            have tr2955 := (fr2950 63 45 rfl)
                                            have tr2956 := rg_63_9 hI2950
                                            refine s_iconst (v := 1) kx_197_617 (by decide) ?_
                                            have hk2957 : M2950 63 9 = v2870 := ((fr2950 63 9 rfl).trans ((fr2937 63 9 rfl).trans ((u2894.2 63 9 (by omega)).trans ((u2883.2 63 9 (by omega)).trans ((fr2873 63 9 rfl).trans v2870e)))))
                                            exact s_iret kx_197_618 (Or.inr ⟨kq_197, by omega⟩) ⟨_, _, rfl, rfl, hI2950, hFm2950, ⟨by omega, by omega, (show LXp M2950 from v2949p.2), (by omega), (by omega), ⟨(Or.inr (Or.inr ⟨rfl, by omega, Or.inr ⟨((fr2950 63 46 rfl).trans ((fr2937 63 46 rfl).trans ((u2894.2 63 46 (by omega)).trans ((u2883.2 63 46 (by omega)).trans ((fr2873 63 46 rfl).trans ((fr2861 63 46 rfl).trans ((fr2631 63 46 rfl).trans (fr2 63 46 rfl)))))))), (B0.fr (B0.fr (B0.up (show B0 M2883 from hcl2892.2.1) u2894 (by decide)) fr2937 rfl (fun _ => rfl)) fr2950 rfl (fun _ => rfl)), PI.to7 (PI.fr hP2946 fr2950 rfl) (by omega)⟩⟩)), (KP.fr hK2947 fr2950 (fun _ => rfl))⟩⟩⟩
                                        · refine s_iconst (v := 0) kx_197_553 (by decide) ?_
                                          have hk2958 : M2861 63 4 = v2629 := ((fr2861 63 4 rfl).trans ((fr2631 63 4 rfl).trans v2629e))
                                          have hk2959 : M2861 63 9 = v2870 := v2870e
                                          exact s_iret kx_197_554 (Or.inr ⟨kq_197, by omega⟩) ⟨_, _, rfl, rfl, hI2861, hFm2861, ⟨by omega, by omega, (LXp.fr (LXp.fr (LXp.fr hX fr2 rfl) fr2631 rfl) fr2861 rfl), (by omega), (by omega), ⟨(Or.inl (by omega)), (KP.fr (KP.fr (KP.fr (KP.refl (M := M)) fr2 (fun _ => rfl)) fr2631 (fun _ => rfl)) fr2861 (fun _ => rfl))⟩⟩⟩
                                    refine s_icmp_ne (t := 529) kx_197_521 (by decide) (fun hc2761 => ?_) (fun hc2761 => ?_)
                                    · have hJ2762 : Fr fS_197_j521 M2631 M2631 := Fr.refl
                                      refine s_bipush (v := 41) kx_197_529 (by decide) ?_
                                      exact cP.wk (lS1 rfl (lS1 rfl (lS1 rfl lS0))) (jn2765 41 (by omega) (by omega))
                                    · have hJ2763 : Fr fS_197_j521 M2631 M2631 := Fr.refl
                                      refine s_bipush (v := 93) kx_197_524 (by decide) ?_
                                      refine s_goto (t := 531) kx_197_526 (by decide) ?_
                                      exact cP.wk (lS1 rfl (lS1 rfl (lS1 rfl lS0))) (jn2765 93 (by omega) (by omega))
                                  · refine s_aload_n kx_197_452 rfl ?_
                                    refine s_bipush (v := 44) kx_197_453 (by decide) ?_
                                    refine s_callV2 (k := 63) (s1 := 2) (s2 := 0) (as := [(0, 44)]) (rest := []) kx_197_455 kp_197_283 (Or.inl rfl) rfl (tk_63 hT) ki_181 kcl_181 rfl rfl (by decide) (m_181 (d := d + 1) (c := 44) hT hI2631) (kF (fun v2960 v2960p => ?_))
                                    refine s_if_ne (t := 470) kx_197_458 (by decide) (fun hc2961 => ?_) (fun hc2961 => ?_)
                                    · replace v2960p := v2960p.resolve_right (by omega)
                                      refine s_aload_n kx_197_470 rfl ?_
                                      refine r_getI (k := 63) (f := 9) kx_197_471 kp_197_39 (tk_63 hT) kf_12_9 (fun _ => rfl) (rg_63_9 hI2631) (fun v2962 v2962e v2962a v2962b => ?_)
                                      refine s_if_le (t := 479) kx_197_474 (by decide) (fun hc2963 => ?_) (fun hc2963 => ?_)
                                      · refine s_aload_n kx_197_479 rfl ?_
                                        refine s_iconst (v := 1) kx_197_480 (by decide) ?_
                                        refine s_callV2 (k := 63) (s1 := 2) (s2 := 0) (as := [(0, 1)]) (rest := []) kx_197_481 kp_197_370 (Or.inl rfl) rfl (tk_63 hT) ki_191 kcl_191 rfl rfl (by decide) (m_191 (d := d) (least := 1) hT hI2631 (PI.fr (PI.fr hP fr2 rfl) fr2631 rfl) (by omega) (by omega) (by omega)) (kV (fun M2965 hI2965 fr2965 v2964p => ?_))
                                        have hFm2965 := hFm2631.call fr2965 rfl
                                        have tr2966 := (fr2965 63 3 rfl)
                                        have tr2967 := (fr2965 63 4 rfl)
                                        have tr2968 := (fr2965 63 5 rfl)
                                        have tr2969 := (fr2965 63 9 rfl)
                                        have tr2970 := (fr2965 63 42 rfl)
                                        have tr2971 := rg_63_9 hI2965
                                        have hd2972 := PI.deep v2964p.1
                                        have hs2973 := PI.small v2964p.1 (rg_63_43 hI2965).2 (by decide)
                                        have hs2973a := hs2973.1
                                        have hs2973b := hs2973.2.1
                                        have hs2973c := rg_63_45 hI2965
                                        have hK2974 := KP.trans (KP.fr (KP.fr (KP.refl (M := M)) fr2 (fun _ => rfl)) fr2631 (fun _ => rfl)) ((fr2631 63 36 rfl).trans (fr2 63 36 rfl)) v2964p.2
                                        have hk852975 : M2965 85 ((v13 - 1)).toNat = v14 := ((fr2965 85 _ rfl).trans ((fr2631 85 _ rfl).trans v14e))
                                        refine s_aload_n kx_197_484 rfl ?_
                                        refine r_getR (k := 63) (f := 37) (k2 := 85) kx_197_485 kp_197_124 (tk_63 hT) kf_12_37 (by decide) (rq_63_37 hI2965) ?_
                                        refine s_iload_n kx_197_488 rfl ?_
                                        refine s_iload_n kx_197_489 rfl ?_
                                        refine s_iconst (v := 3) kx_197_490 (by decide) ?_
                                        refine s_icmp_ne (t := 498) kx_197_491 (by decide) (fun hc2976 => ?_) (fun hc2976 => absurd hc2976 (by omega))
                                        refine s_iconst (v := 3) kx_197_498 (by decide) ?_
                                        refine r_ast (k := 85) kx_197_499 (tk_85 hT) ⟨by omega, by omega⟩ hI2965 (ru_85 (by omega) (by omega)) (fun M2977 hI2977 u2977 => ?_)
                                        have hFm2977 := hFm2965.up u2977 rfl
                                        have tr2978 := (u2977.2 63 3 (by omega))
                                        have tr2979 := (u2977.2 63 4 (by omega))
                                        have tr2980 := (u2977.2 63 5 (by omega))
                                        have tr2981 := (u2977.2 63 9 (by omega))
                                        have tr2982 := (u2977.2 63 35 (by omega))
                                        have tr2983 := (u2977.2 63 42 (by omega))
                                        have tr2984 := (u2977.2 63 43 (by omega))
                                        have tr2985 := (u2977.2 63 45 (by omega))
                                        refine s_aload_n kx_197_500 rfl ?_
                                        refine r_getR (k := 63) (f := 38) (k2 := 86) kx_197_501 kp_197_127 (tk_63 hT) kf_12_38 (by decide) (rq_63_38 hI2977) ?_
                                        refine s_iload_n kx_197_504 rfl ?_
                                        refine s_iconst (v := 0) kx_197_505 (by decide) ?_
                                        refine r_ast (k := 86) kx_197_506 (tk_86 hT) ⟨by omega, by omega⟩ hI2977 (ru_86 (by omega) (by omega)) (fun M2986 hI2986 u2986 => ?_)
                                        have hFm2986 := hFm2977.up u2986 rfl
                                        have tr2987 := (u2986.2 63 3 (by omega))
                                        have tr2988 := (u2986.2 63 4 (by omega))
                                        have tr2989 := (u2986.2 63 5 (by omega))
                                        have tr2990 := (u2986.2 63 9 (by omega))
                                        have tr2991 := (u2986.2 63 35 (by omega))
                                        have tr2992 := (u2986.2 63 42 (by omega))
                                        have tr2993 := (u2986.2 63 43 (by omega))
                                        have tr2994 := (u2986.2 63 45 (by omega))
                                        refine s_aload_n kx_197_507 rfl ?_
                                        refine s_callV2 (k := 63) (s1 := 1) (s2 := 0) (as := []) (rest := []) kx_197_508 kp_197_286 (Or.inl rfl) rfl (tk_63 hT) ki_180 kcl_180 rfl rfl (by decide) (m_180 (d := d) hT hI2986) (kV (fun M2996 hI2996 fr2996 v2995p => ?_))
                                        have hFm2996 := hFm2986.call fr2996 rfl
                                        have tr2997 := (fr2996 63 9 rfl)
                                        have tr2998 := (fr2996 63 35 rfl)
                                        have tr2999 := (fr2996 63 42 rfl)
                                        have tr3000 := (fr2996 63 43 rfl)
                                        have tr3001 := (fr2996 63 45 rfl)
                                        have tr3002 := rg_63_9 hI2996
                                        refine s_aload_n kx_197_511 rfl ?_
                                        refine s_iconst (v := 0) kx_197_512 (by decide) ?_
                                        refine r_put (k := 63) (f := 46) kx_197_513 kp_197_152 (tk_63 hT) kf_12_46 rfl (by decide) (by decide) hI2996 (ru_63_46 (by omega) (by omega)) (fun M3003 hI3003 u3003 => ?_)
                                        have hFm3003 := hFm2996.up u3003 rfl
                                        have tr3004 := (u3003.2 63 3 (by omega))
                                        have tr3005 := (u3003.2 63 4 (by omega))
                                        have tr3006 := (u3003.2 63 5 (by omega))
                                        have tr3007 := (u3003.2 63 9 (by omega))
                                        have tr3008 := (u3003.2 63 35 (by omega))
                                        have tr3009 := (u3003.2 63 42 (by omega))
                                        have tr3010 := (u3003.2 63 43 (by omega))
                                        have tr3011 := (u3003.2 63 45 (by omega))
                                        refine s_iconst (v := 1) kx_197_516 (by decide) ?_
                                        have hk3012 : M3003 63 9 = v2962 := ((u3003.2 63 9 (by omega)).trans ((fr2996 63 9 rfl).trans ((u2986.2 63 9 (by omega)).trans ((u2977.2 63 9 (by omega)).trans ((fr2965 63 9 rfl).trans v2962e)))))
                                        exact s_iret kx_197_517 (Or.inr ⟨kq_197, by omega⟩) ⟨_, _, rfl, rfl, hI3003, hFm3003, ⟨by omega, by omega, (LXp.up (show LXp M2996 from v2995p.2) u3003 (by decide)), (by omega), (by omega), ⟨(Or.inr (Or.inr ⟨rfl, by omega, Or.inl ⟨u3003.1, PI.to7 (PI.fr (PI.fr (PI.phase (PI.comma v2964p.1 (by omega) (by omega) u2977) (Or.inr (by omega)) (by omega) u2986) fr2996 rfl) (Up.fr u3003) rfl) (by omega)⟩⟩)), (KP.up (KP.fr (KP.up (KP.up hK2974 u2977 (by decide)) u2986 (by decide)) fr2996 (fun _ => rfl)) u3003 (by decide))⟩⟩⟩
                                      · refine s_iconst (v := 0) kx_197_477 (by decide) ?_
                                        have hk3013 : M2631 63 4 = v2629 := ((fr2631 63 4 rfl).trans v2629e)
                                        have hk3014 : M2631 63 9 = v2962 := v2962e
                                        exact s_iret kx_197_478 (Or.inr ⟨kq_197, by omega⟩) ⟨_, _, rfl, rfl, hI2631, hFm2631, ⟨by omega, by omega, (LXp.fr (LXp.fr hX fr2 rfl) fr2631 rfl), (by omega), (by omega), ⟨(Or.inl (by omega)), (KP.fr (KP.fr (KP.refl (M := M)) fr2 (fun _ => rfl)) fr2631 (fun _ => rfl))⟩⟩⟩
                                    · replace v2960p := v2960p.resolve_left (by omega)
                                      refine s_aload_n kx_197_461 rfl ?_
                                      refine s_iconst (v := 1) kx_197_462 (by decide) ?_
                                      refine s_aload_n kx_197_463 rfl ?_
                                      refine r_getK (k := 63) (f := 4) kx_197_464 kp_197_23 (tk_63 hT) kf_12_4 (fun _ => rfl) ((fr2631 63 4 rfl).trans v2629e) ?_
                                      refine s_callV2 (k := 63) (s1 := 3) (s2 := 0) (as := [(0, v2629), (0, 1)]) (rest := []) kx_197_467 kp_197_263 (Or.inl rfl) rfl (tk_63 hT) ki_176 kcl_176 rfl rfl (by decide) (m_176 (d := d + 1) (kind := 1) (place := v2629) hT hI2631 (by omega)) (kV (fun M3016 hI3016 fr3016 v3015p => ?_))
                                      have hFm3016 := hFm2631.call fr3016 rfl
                                      have tr3017 := (fr3016 63 3 rfl)
                                      have tr3018 := (fr3016 63 4 rfl)
                                      have tr3019 := (fr3016 63 5 rfl)
                                      have tr3020 := (fr3016 63 35 rfl)
                                      have tr3021 := (fr3016 63 42 rfl)
                                      have tr3022 := (fr3016 63 43 rfl)
                                      have tr3023 := (fr3016 63 45 rfl)
                                      have tr3024 := rg_63_9 hI3016
                                      refine s_aload_n kx_197_470 rfl ?_
                                      refine r_getI (k := 63) (f := 9) kx_197_471 kp_197_39 (tk_63 hT) kf_12_9 (fun _ => rfl) (rg_63_9 hI3016) (fun v3025 v3025e v3025a v3025b => ?_)
                                      refine s_if_le (t := 479) kx_197_474 (by decide) (fun hc3026 => ?_) (fun hc3026 => ?_)
                                      · refine s_aload_n kx_197_479 rfl ?_
                                        refine s_iconst (v := 1) kx_197_480 (by decide) ?_
                                        refine s_callV2 (k := 63) (s1 := 2) (s2 := 0) (as := [(0, 1)]) (rest := []) kx_197_481 kp_197_370 (Or.inl rfl) rfl (tk_63 hT) ki_191 kcl_191 rfl rfl (by decide) (m_191 (d := d) (least := 1) hT hI3016 (PI.fr (PI.fr (PI.fr hP fr2 rfl) fr2631 rfl) fr3016 rfl) (by omega) (by omega) (by omega)) (kV (fun M3028 hI3028 fr3028 v3027p => ?_))
                                        have hFm3028 := hFm3016.call fr3028 rfl
                                        have tr3029 := (fr3028 63 3 rfl)
                                        have tr3030 := (fr3028 63 4 rfl)
                                        have tr3031 := (fr3028 63 5 rfl)
                                        have tr3032 := (fr3028 63 9 rfl)
                                        have tr3033 := (fr3028 63 42 rfl)
                                        have tr3034 := rg_63_9 hI3028
                                        have hd3035 := PI.deep v3027p.1
                                        have hs3036 := PI.small v3027p.1 (rg_63_43 hI3028).2 (by decide)
                                        have hs3036a := hs3036.1
                                        have hs3036b := hs3036.2.1
                                        have hs3036c := rg_63_45 hI3028
                                        have hK3037 := KP.trans (KP.fr (KP.fr (KP.fr (KP.refl (M := M)) fr2 (fun _ => rfl)) fr2631 (fun _ => rfl)) fr3016 (fun _ => rfl)) ((fr3016 63 36 rfl).trans ((fr2631 63 36 rfl).trans (fr2 63 36 rfl))) v3027p.2
                                        have hk853038 : M3028 85 ((v13 - 1)).toNat = v14 := ((fr3028 85 _ rfl).trans ((fr3016 85 _ rfl).trans ((fr2631 85 _ rfl).trans v14e)))
                                        refine s_aload_n kx_197_484 rfl ?_
                                        refine r_getR (k := 63) (f := 37) (k2 := 85) kx_197_485 kp_197_124 (tk_63 hT) kf_12_37 (by decide) (rq_63_37 hI3028) ?_
                                        refine s_iload_n kx_197_488 rfl ?_
                                        refine s_iload_n kx_197_489 rfl ?_
                                        refine s_iconst (v := 3) kx_197_490 (by decide) ?_
                                        refine s_icmp_ne (t := 498) kx_197_491 (by decide) (fun hc3039 => ?_) (fun hc3039 => absurd hc3039 (by omega))
                                        refine s_iconst (v := 3) kx_197_498 (by decide) ?_
                                        refine r_ast (k := 85) kx_197_499 (tk_85 hT) ⟨by omega, by omega⟩ hI3028 (ru_85 (by omega) (by omega)) (fun M3040 hI3040 u3040 => ?_)
                                        have hFm3040 := hFm3028.up u3040 rfl
                                        have tr3041 := (u3040.2 63 3 (by omega))
                                        have tr3042 := (u3040.2 63 4 (by omega))
                                        have tr3043 := (u3040.2 63 5 (by omega))
                                        have tr3044 := (u3040.2 63 9 (by omega))
                                        have tr3045 := (u3040.2 63 35 (by omega))
                                        have tr3046 := (u3040.2 63 42 (by omega))
                                        have tr3047 := (u3040.2 63 43 (by omega))
                                        have tr3048 := (u3040.2 63 45 (by omega))
                                        refine s_aload_n kx_197_500 rfl ?_
                                        refine r_getR (k := 63) (f := 38) (k2 := 86) kx_197_501 kp_197_127 (tk_63 hT) kf_12_38 (by decide) (rq_63_38 hI3040) ?_
                                        refine s_iload_n kx_197_504 rfl ?_
                                        refine s_iconst (v := 0) kx_197_505 (by decide) ?_
                                        refine r_ast (k := 86) kx_197_506 (tk_86 hT) ⟨by omega, by omega⟩ hI3040 (ru_86 (by omega) (by omega)) (fun M3049 hI3049 u3049 => ?_)
                                        have hFm3049 := hFm3040.up u3049 rfl
                                        have tr3050 := (u3049.2 63 3 (by omega))
                                        have tr3051 := (u3049.2 63 4 (by omega))
                                        have tr3052 := (u3049.2 63 5 (by omega))
                                        have tr3053 := (u3049.2 63 9 (by omega))
                                        have tr3054 := (u3049.2 63 35 (by omega))
                                        have tr3055 := (u3049.2 63 42 (by omega))
                                        have tr3056 := (u3049.2 63 43 (by omega))
                                        have tr3057 := (u3049.2 63 45 (by omega))
                                        refine s_aload_n kx_197_507 rfl ?_
                                        refine s_callV2 (k := 63) (s1 := 1) (s2 := 0) (as := []) (rest := []) kx_197_508 kp_197_286 (Or.inl rfl) rfl (tk_63 hT) ki_180 kcl_180 rfl rfl (by decide) (m_180 (d := d) hT hI3049) (kV (fun M3059 hI3059 fr3059 v3058p => ?_))
                                        have hFm3059 := hFm3049.call fr3059 rfl
                                        have tr3060 := (fr3059 63 9 rfl)
                                        have tr3061 := (fr3059 63 35 rfl)
                                        have tr3062 := (fr3059 63 42 rfl)
                                        have tr3063 := (fr3059 63 43 rfl)
                                        have tr3064 := (fr3059 63 45 rfl)
                                        have tr3065 := rg_63_9 hI3059
                                        refine s_aload_n kx_197_511 rfl ?_
                                        refine s_iconst (v := 0) kx_197_512 (by decide) ?_
                                        refine r_put (k := 63) (f := 46) kx_197_513 kp_197_152 (tk_63 hT) kf_12_46 rfl (by decide) (by decide) hI3059 (ru_63_46 (by omega) (by omega)) (fun M3066 hI3066 u3066 => ?_)
                                        have hFm3066 := hFm3059.up u3066 rfl
                                        have tr3067 := (u3066.2 63 3 (by omega))
                                        have tr3068 := (u3066.2 63 4 (by omega))
                                        have tr3069 := (u3066.2 63 5 (by omega))
                                        have tr3070 := (u3066.2 63 9 (by omega))
                                        have tr3071 := (u3066.2 63 35 (by omega))
                                        have tr3072 := (u3066.2 63 42 (by omega))
                                        have tr3073 := (u3066.2 63 43 (by omega))
                                        have tr3074 := (u3066.2 63 45 (by omega))
                                        refine s_iconst (v := 1) kx_197_516 (by decide) ?_
                                        have hk3075 : M3066 63 9 = v3025 := ((u3066.2 63 9 (by omega)).trans ((fr3059 63 9 rfl).trans ((u3049.2 63 9 (by omega)).trans ((u3040.2 63 9 (by omega)).trans ((fr3028 63 9 rfl).trans v3025e)))))
                                        exact s_iret kx_197_517 (Or.inr ⟨kq_197, by omega⟩) ⟨_, _, rfl, rfl, hI3066, hFm3066, ⟨by omega, by omega, (LXp.up (show LXp M3059 from v3058p.2) u3066 (by decide)), (by omega), (by omega), ⟨(Or.inr (Or.inr ⟨rfl, by omega, Or.inl ⟨u3066.1, PI.to7 (PI.fr (PI.fr (PI.phase (PI.comma v3027p.1 (by omega) (by omega) u3040) (Or.inr (by omega)) (by omega) u3049) fr3059 rfl) (Up.fr u3066) rfl) (by omega)⟩⟩)), (KP.up (KP.fr (KP.up (KP.up hK3037 u3040 (by decide)) u3049 (by decide)) fr3059 (fun _ => rfl)) u3066 (by decide))⟩⟩⟩
                                      · refine s_iconst (v := 0) kx_197_477 (by decide) ?_
                                        have hk3076 : M3016 63 4 = v2629 := ((fr3016 63 4 rfl).trans ((fr2631 63 4 rfl).trans v2629e))
                                        have hk3077 : M3016 63 9 = v3025 := v3025e
                                        exact s_iret kx_197_478 (Or.inr ⟨kq_197, by omega⟩) ⟨_, _, rfl, rfl, hI3016, hFm3016, ⟨by omega, by omega, (LXp.fr (LXp.fr (LXp.fr hX fr2 rfl) fr2631 rfl) fr3016 rfl), (by omega), (by omega), ⟨(Or.inl (by omega)), (KP.fr (KP.fr (KP.fr (KP.refl (M := M)) fr2 (fun _ => rfl)) fr2631 (fun _ => rfl)) fr3016 (fun _ => rfl))⟩⟩⟩
                              · refine s_aload_n kx_197_427 rfl ?_
                                refine r_getI (k := 63) (f := 9) kx_197_428 kp_197_39 (tk_63 hT) kf_12_9 (fun _ => rfl) (rg_63_9 hI2631) (fun v3078 v3078e v3078a v3078b => ?_)
                                refine s_if_ne (t := 439) kx_197_431 (by decide) (fun hc3079 => ?_) (fun hc3079 => ?_)
                                · refine s_iconst (v := 0) kx_197_439 (by decide) ?_
                                  have hk3080 : M2631 63 4 = v2629 := ((fr2631 63 4 rfl).trans v2629e)
                                  have hk3081 : M2631 63 9 = v3078 := v3078e
                                  exact s_iret kx_197_440 (Or.inr ⟨kq_197, by omega⟩) ⟨_, _, rfl, rfl, hI2631, hFm2631, ⟨by omega, by omega, (LXp.fr (LXp.fr hX fr2 rfl) fr2631 rfl), (by omega), (by omega), ⟨(Or.inl (by omega)), (KP.fr (KP.fr (KP.refl (M := M)) fr2 (fun _ => rfl)) fr2631 (fun _ => rfl))⟩⟩⟩
                                · refine s_aload_n kx_197_434 rfl ?_
                                  refine s_iconst (v := 1) kx_197_435 (by decide) ?_
                                  refine s_callV2 (k := 63) (s1 := 2) (s2 := 0) (as := [(0, 1)]) (rest := []) kx_197_436 kp_197_370 (Or.inl rfl) rfl (tk_63 hT) ki_191 kcl_191 rfl rfl (by decide) (m_191 (d := d) (least := 1) hT hI2631 (PI.fr (PI.fr hP fr2 rfl) fr2631 rfl) (by omega) (by omega) (by omega)) (kV (fun M3083 hI3083 fr3083 v3082p => ?_))
                                  have hFm3083 := hFm2631.call fr3083 rfl
                                  have tr3084 := (fr3083 63 3 rfl)
                                  have tr3085 := (fr3083 63 4 rfl)
                                  have tr3086 := (fr3083 63 5 rfl)
                                  have tr3087 := (fr3083 63 9 rfl)
                                  have tr3088 := (fr3083 63 42 rfl)
                                  have tr3089 := rg_63_9 hI3083
                                  have hK3090 := KP.trans (KP.fr (KP.fr (KP.refl (M := M)) fr2 (fun _ => rfl)) fr2631 (fun _ => rfl)) ((fr2631 63 36 rfl).trans (fr2 63 36 rfl)) v3082p.2
                                  refine s_iconst (v := 0) kx_197_439 (by decide) ?_
                                  have hk3091 : M3083 63 4 = v2629 := ((fr3083 63 4 rfl).trans ((fr2631 63 4 rfl).trans v2629e))
                                  have hk3092 : M3083 63 9 = v3078 := ((fr3083 63 9 rfl).trans v3078e)
                                  exact s_iret kx_197_440 (Or.inr ⟨kq_197, by omega⟩) ⟨_, _, rfl, rfl, hI3083, hFm3083, ⟨by omega, by omega, (LXp.fr (LXp.fr (LXp.fr hX fr2 rfl) fr2631 rfl) fr3083 rfl), (by omega), (by omega), ⟨(if h9 : 1 ≤ M3083 63 9 then Or.inl h9 else Or.inr (Or.inl ⟨rfl, PI.to7 v3082p.1 (by omega)⟩)), hK3090⟩⟩⟩
                            · replace v2625p := v2625p.resolve_right (by omega)
                              refine s_aload_n kx_197_309 rfl ?_
                              refine r_getR (k := 63) (f := 38) (k2 := 86) kx_197_310 kp_197_127 (tk_63 hT) kf_12_38 (by decide) (rq_63_38 hI2) ?_
                              refine s_iload_n kx_197_313 rfl ?_
                              refine r_aldK (k := 86) kx_197_314 (tk_86 hT) ⟨by omega, by omega⟩ v16e ?_
                              refine s_if_ne (t := 327) kx_197_315 (by decide) (fun hc3093 => absurd hc3093 (by omega)) (fun hc3093 => ?_)
                              refine s_aload_n kx_197_318 rfl ?_
                              refine s_iconst (v := 1) kx_197_319 (by decide) ?_
                              refine s_aload_n kx_197_320 rfl ?_
                              refine r_getI (k := 63) (f := 4) kx_197_321 kp_197_23 (tk_63 hT) kf_12_4 (fun _ => rfl) (rg_63_4 hI2) (fun v3094 v3094e v3094a v3094b => ?_)
                              have v3094z : M 63 4 = v3094 := ((fr2 63 4 rfl)).symm.trans v3094e
                              refine s_callV2 (k := 63) (s1 := 3) (s2 := 0) (as := [(0, v3094), (0, 1)]) (rest := []) kx_197_324 kp_197_263 (Or.inl rfl) rfl (tk_63 hT) ki_176 kcl_176 rfl rfl (by decide) (m_176 (d := d + 1) (kind := 1) (place := v3094) hT hI2 (by omega)) (kV (fun M3096 hI3096 fr3096 v3095p => ?_))
                              have hFm3096 := hFm2.call fr3096 rfl
                              have tr3097 := (fr3096 63 3 rfl)
                              have tr3098 := (fr3096 63 4 rfl)
                              have tr3099 := (fr3096 63 5 rfl)
                              have tr3100 := (fr3096 63 35 rfl)
                              have tr3101 := (fr3096 63 42 rfl)
                              have tr3102 := (fr3096 63 43 rfl)
                              have tr3103 := (fr3096 63 45 rfl)
                              have tr3104 := rg_63_9 hI3096
                              refine s_aload_n kx_197_327 rfl ?_
                              refine r_getI (k := 63) (f := 9) kx_197_328 kp_197_39 (tk_63 hT) kf_12_9 (fun _ => rfl) (rg_63_9 hI3096) (fun v3105 v3105e v3105a v3105b => ?_)
                              refine s_if_le (t := 336) kx_197_331 (by decide) (fun hc3106 => ?_) (fun hc3106 => ?_)
                              · refine s_aload_n kx_197_336 rfl ?_
                                refine s_ldc2_w kx_197_337 kp_197_327 ?_
                                refine s_callV2 (k := 63) (s1 := 3) (s2 := 0) (as := [(1, 6385252)]) (rest := []) kx_197_340 kp_197_361 (Or.inl rfl) rfl (tk_63 hT) ki_182 kcl_182 rfl rfl (by decide) (m_182 (d := d + 1) (w := 6385252) hT hI3096) (kF (fun v3107 v3107p => ?_))
                                refine s_istore kx_197_343 km_197_4 rfl ?_
                                refine s_aload_n kx_197_345 rfl ?_
                                refine s_iload kx_197_346 rfl ?_
                                have jn3112 : ∀ (y3111 : Int), (1 ≤ y3111) → (y3111 ≤ 2) → ((y3111 = 2 ∧ v3107 ≠ 0) ∨ (y3111 = 1 ∧ v3107 = 0)) → cP k_P xs Ln (d + 2) 197 356 [(0, rf 63), (1, (0, (v13 - 1))), (4, (0, v3107))] [(0, y3111), rf 63] (T, M3096) (qW T M fS_197_m 0 (fun v M1 => 0 ≤ v ∧ v ≤ 1 ∧ (LXp M1 ∧ M 63 4 ≤ M1 63 4 ∧ M 63 9 ≤ M1 63 9 ∧ (GOd M M1 c a v ∧ KP M M1)))) := by
                                  intro y3111 a3113 a3114 a3115
                                  refine s_callV2 (k := 63) (s1 := 2) (s2 := 0) (as := [(0, y3111)]) (rest := []) kx_197_356 kp_197_370 (Or.inl rfl) rfl (tk_63 hT) ki_191 kcl_191 rfl rfl (by decide) (m_191 (d := d) (least := y3111) hT hI3096 (PI.fr (PI.fr hP fr2 rfl) fr3096 rfl) (by omega) (by omega) (by omega)) (kV (fun M3117 hI3117 fr3117 v3116p => ?_))
                                  have hFm3117 := hFm3096.call fr3117 rfl
                                  have tr3118 := (fr3117 63 3 rfl)
                                  have tr3119 := (fr3117 63 4 rfl)
                                  have tr3120 := (fr3117 63 5 rfl)
                                  have tr3121 := (fr3117 63 9 rfl)
                                  have tr3122 := (fr3117 63 42 rfl)
                                  have tr3123 := rg_63_9 hI3117
                                  have hd3124 := PI.deep v3116p.1
                                  have hs3125 := PI.small v3116p.1 (rg_63_43 hI3117).2 (by decide)
                                  have hs3125a := hs3125.1
                                  have hs3125b := hs3125.2.1
                                  have hs3125c := rg_63_45 hI3117
                                  have hK3126 := KP.trans (KP.fr (KP.fr (KP.refl (M := M)) fr2 (fun _ => rfl)) fr3096 (fun _ => rfl)) ((fr3096 63 36 rfl).trans (fr2 63 36 rfl)) v3116p.2
                                  refine s_aload_n kx_197_359 rfl ?_
                                  refine s_iload kx_197_360 rfl ?_
                                  have jn3131 : ∀ (y3130 : Int), (20 ≤ y3130) → (y3130 ≤ 21) → ((y3130 = 20 ∧ v3107 ≠ 0) ∨ (y3130 = 21 ∧ v3107 = 0)) → cP k_P xs Ln (d + 2) 197 372 [(0, rf 63), (1, (0, (v13 - 1)))] [(0, y3130), rf 63] (T, M3117) (qW T M fS_197_m 0 (fun v M1 => 0 ≤ v ∧ v ≤ 1 ∧ (LXp M1 ∧ M 63 4 ≤ M1 63 4 ∧ M 63 9 ≤ M1 63 9 ∧ (GOd M M1 c a v ∧ KP M M1)))) := by
                                    intro y3130 a3132 a3133 a3134
                                    refine s_callV2 (k := 63) (s1 := 2) (s2 := 0) (as := [(0, y3130)]) (rest := []) kx_197_372 kp_197_364 (Or.inl rfl) rfl (tk_63 hT) ki_192 kcl_192 rfl rfl (by decide) (m_192 (d := d + 1) (op := y3130) hT hI3117 (by omega) (by omega)) (kV (fun M3136 hI3136 fr3136 v3135p => ?_))
                                    have hFm3136 := hFm3117.call fr3136 rfl
                                    have tr3137 := (fr3136 63 3 rfl)
                                    have tr3138 := (fr3136 63 4 rfl)
                                    have tr3139 := (fr3136 63 5 rfl)
                                    have tr3140 := (fr3136 63 9 rfl)
                                    have tr3141 := (fr3136 63 35 rfl)
                                    have tr3142 := (fr3136 63 42 rfl)
                                    have tr3143 := (fr3136 63 43 rfl)
                                    have tr3144 := rg_63_9 hI3136
                                    have hP3145 := PI.holdL v3116p.1 (B0.fr (B0.fr (B0.fr hB fr2 rfl (fun _ => rfl)) fr3096 rfl (fun _ => rfl)) fr3117 rfl (fun _ => rfl)) (by omega) fr3136 v3135p.1 v3135p.2.1 v3135p.2.2
                                    refine s_aload_n kx_197_375 rfl ?_
                                    refine r_getR (k := 63) (f := 38) (k2 := 86) kx_197_376 kp_197_127 (tk_63 hT) kf_12_38 (by decide) (rq_63_38 hI3136) ?_
                                    refine s_iload_n kx_197_379 rfl ?_
                                    refine s_iconst (v := 0) kx_197_380 (by decide) ?_
                                    refine r_ast (k := 86) kx_197_381 (tk_86 hT) ⟨by omega, by omega⟩ hI3136 (ru_86 (by omega) (by omega)) (fun M3146 hI3146 u3146 => ?_)
                                    have hFm3146 := hFm3136.up u3146 rfl
                                    have tr3147 := (u3146.2 63 3 (by omega))
                                    have tr3148 := (u3146.2 63 4 (by omega))
                                    have tr3149 := (u3146.2 63 5 (by omega))
                                    have tr3150 := (u3146.2 63 9 (by omega))
                                    have tr3151 := (u3146.2 63 35 (by omega))
                                    have tr3152 := (u3146.2 63 42 (by omega))
                                    have tr3153 := (u3146.2 63 43 (by omega))
                                    have tr3154 := (u3146.2 63 45 (by omega))
                                    refine s_aload_n kx_197_382 rfl ?_
                                    refine r_getR (k := 63) (f := 39) (k2 := 87) kx_197_383 kp_197_130 (tk_63 hT) kf_12_39 (by decide) (rq_63_39 hI3146) ?_
                                    refine s_iload_n kx_197_386 rfl ?_
                                    refine s_iconst (v := 1) kx_197_387 (by decide) ?_
                                    refine r_bast (k := 87) kx_197_388 (tk_87 hT) ⟨by omega, by omega⟩ (by omega) hI3146 (ru_87 (by omega) (by omega)) (fun M3155 hI3155 u3155 => ?_)
                                    have hFm3155 := hFm3146.up u3155 rfl
                                    have tr3156 := (u3155.2 63 3 (by omega))
                                    have tr3157 := (u3155.2 63 4 (by omega))
                                    have tr3158 := (u3155.2 63 5 (by omega))
                                    have tr3159 := (u3155.2 63 9 (by omega))
                                    have tr3160 := (u3155.2 63 35 (by omega))
                                    have tr3161 := (u3155.2 63 42 (by omega))
                                    have tr3162 := (u3155.2 63 43 (by omega))
                                    have tr3163 := (u3155.2 63 45 (by omega))
                                    refine s_aload_n kx_197_389 rfl ?_
                                    refine s_callV2 (k := 63) (s1 := 1) (s2 := 0) (as := []) (rest := []) kx_197_390 kp_197_286 (Or.inl rfl) rfl (tk_63 hT) ki_180 kcl_180 rfl rfl (by decide) (m_180 (d := d) hT hI3155) (kV (fun M3165 hI3165 fr3165 v3164p => ?_))
                                    have hFm3165 := hFm3155.call fr3165 rfl
                                    have tr3166 := (fr3165 63 9 rfl)
                                    have tr3167 := (fr3165 63 35 rfl)
                                    have tr3168 := (fr3165 63 42 rfl)
                                    have tr3169 := (fr3165 63 43 rfl)
                                    have tr3170 := (fr3165 63 45 rfl)
                                    have tr3171 := rg_63_9 hI3165
                                    refine s_aload_n kx_197_393 rfl ?_
                                    refine s_iconst (v := 0) kx_197_394 (by decide) ?_
                                    refine r_put (k := 63) (f := 46) kx_197_395 kp_197_152 (tk_63 hT) kf_12_46 rfl (by decide) (by decide) hI3165 (ru_63_46 (by omega) (by omega)) (fun M3172 hI3172 u3172 => ?_)
                                    have hFm3172 := hFm3165.up u3172 rfl
                                    have tr3173 := (u3172.2 63 3 (by omega))
                                    have tr3174 := (u3172.2 63 4 (by omega))
                                    have tr3175 := (u3172.2 63 5 (by omega))
                                    have tr3176 := (u3172.2 63 9 (by omega))
                                    have tr3177 := (u3172.2 63 35 (by omega))
                                    have tr3178 := (u3172.2 63 42 (by omega))
                                    have tr3179 := (u3172.2 63 43 (by omega))
                                    have tr3180 := (u3172.2 63 45 (by omega))
                                    refine s_iconst (v := 1) kx_197_398 (by decide) ?_
                                    have hk3181 : M3172 63 9 = v3105 := ((u3172.2 63 9 (by omega)).trans ((fr3165 63 9 rfl).trans ((u3155.2 63 9 (by omega)).trans ((u3146.2 63 9 (by omega)).trans ((fr3136 63 9 rfl).trans ((fr3117 63 9 rfl).trans v3105e))))))
                                    exact s_iret kx_197_399 (Or.inr ⟨kq_197, by omega⟩) ⟨_, _, rfl, rfl, hI3172, hFm3172, ⟨by omega, by omega, (LXp.up (show LXp M3165 from v3164p.2) u3172 (by decide)), (by omega), (by omega), ⟨(Or.inr (Or.inr ⟨rfl, by omega, Or.inl ⟨u3172.1, PI.to7 (PI.fr (PI.fr (PI.begins1 (PI.phase hP3145 (Or.inr (by omega)) (by omega) u3146) (by omega) (by omega) u3155) fr3165 rfl) (Up.fr u3172) rfl) (by omega)⟩⟩)), (KP.up (KP.fr (KP.up (KP.up (KP.fr hK3126 fr3136 (fun _ => rfl)) u3146 (by decide)) u3155 (by decide)) fr3165 (fun _ => rfl)) u3172 (by decide))⟩⟩⟩
                                  refine s_if_eq (t := 370) kx_197_362 (by decide) (fun hc3127 => ?_) (fun hc3127 => ?_)
                                  · have hJ3128 : Fr fS_197_j362 M3117 M3117 := Fr.refl
                                    refine s_bipush (v := 21) kx_197_370 (by decide) ?_
                                    exact cP.wk (lS1 rfl (lS1 rfl lS0)) (jn3131 21 (by omega) (by omega) (by omega))
                                  · have hJ3129 : Fr fS_197_j362 M3117 M3117 := Fr.refl
                                    refine s_bipush (v := 20) kx_197_365 (by decide) ?_
                                    refine s_goto (t := 372) kx_197_367 (by decide) ?_
                                    exact cP.wk (lS1 rfl (lS1 rfl lS0)) (jn3131 20 (by omega) (by omega) (by omega))
                                refine s_if_eq (t := 355) kx_197_348 (by decide) (fun hc3108 => ?_) (fun hc3108 => ?_)
                                · have hJ3109 : Fr fS_197_j348 M3096 M3096 := Fr.refl
                                  replace v3107p := v3107p.resolve_left (by omega)
                                  refine s_iconst (v := 1) kx_197_355 (by decide) ?_
                                  exact cP.wk (lS1 rfl (lS1 rfl (lS1 rfl lS0))) (jn3112 1 (by omega) (by omega) (by omega))
                                · have hJ3110 : Fr fS_197_j348 M3096 M3096 := Fr.refl
                                  replace v3107p := v3107p.resolve_right (by omega)
                                  refine s_iconst (v := 2) kx_197_351 (by decide) ?_
                                  refine s_goto (t := 356) kx_197_352 (by decide) ?_
                                  exact cP.wk (lS1 rfl (lS1 rfl (lS1 rfl lS0))) (jn3112 2 (by omega) (by omega) (by omega))
                              · refine s_iconst (v := 0) kx_197_334 (by decide) ?_
                                have hk3182 : M3096 63 4 = v3094 := ((fr3096 63 4 rfl).trans v3094e)
                                have hk3183 : M3096 63 9 = v3105 := v3105e
                                exact s_iret kx_197_335 (Or.inr ⟨kq_197, by omega⟩) ⟨_, _, rfl, rfl, hI3096, hFm3096, ⟨by omega, by omega, (LXp.fr (LXp.fr hX fr2 rfl) fr3096 rfl), (by omega), (by omega), ⟨(Or.inl (by omega)), (KP.fr (KP.fr (KP.refl (M := M)) fr2 (fun _ => rfl)) fr3096 (fun _ => rfl))⟩⟩⟩
                        · replace v2529p := v2529p.resolve_right (by omega)
                          refine s_aload_n kx_197_228 rfl ?_
                          refine s_iconst (v := 5) kx_197_229 (by decide) ?_
                          refine s_callV2 (k := 63) (s1 := 2) (s2 := 0) (as := [(0, 5)]) (rest := []) kx_197_230 kp_197_370 (Or.inl rfl) rfl (tk_63 hT) ki_191 kcl_191 rfl rfl (by decide) (m_191 (d := d) (least := 5) hT hI2 (PI.fr hP fr2 rfl) (by omega) (by omega) (by omega)) (kV (fun M3185 hI3185 fr3185 v3184p => ?_))
                          have hFm3185 := hFm2.call fr3185 rfl
                          have tr3186 := (fr3185 63 3 rfl)
                          have tr3187 := (fr3185 63 4 rfl)
                          have tr3188 := (fr3185 63 5 rfl)
                          have tr3189 := (fr3185 63 9 rfl)
                          have tr3190 := (fr3185 63 42 rfl)
                          have tr3191 := rg_63_9 hI3185
                          have hd3192 := PI.deep v3184p.1
                          have hs3193 := PI.small v3184p.1 (rg_63_43 hI3185).2 (by decide)
                          have hs3193a := hs3193.1
                          have hs3193b := hs3193.2.1
                          have hs3193c := rg_63_45 hI3185
                          have hK3194 := KP.trans (KP.fr (KP.refl (M := M)) fr2 (fun _ => rfl)) (fr2 63 36 rfl) v3184p.2
                          refine s_aload_n kx_197_233 rfl ?_
                          refine s_aload_n kx_197_234 rfl ?_
                          refine s_bipush (v := 60) kx_197_235 (by decide) ?_
                          refine s_callV2 (k := 63) (s1 := 2) (s2 := 1) (as := [(0, 60)]) (rest := [rf 63]) kx_197_237 kp_197_283 (Or.inl rfl) rfl (tk_63 hT) ki_181 kcl_181 rfl rfl (by decide) (m_181 (d := d + 1) (c := 60) hT hI3185) (kF (fun v3195 v3195p => ?_))
                          have jn3202 : ∀ (y3201 : Int), (17 ≤ y3201) → (y3201 ≤ 19) → (17 ≤ y3201 ∧ y3201 ≤ 19) → cP k_P xs Ln (d + 2) 197 264 [(0, rf 63), (1, (0, (v13 - 1)))] [(0, y3201), rf 63] (T, M3185) (qW T M fS_197_m 0 (fun v M1 => 0 ≤ v ∧ v ≤ 1 ∧ (LXp M1 ∧ M 63 4 ≤ M1 63 4 ∧ M 63 9 ≤ M1 63 9 ∧ (GOd M M1 c a v ∧ KP M M1)))) := by
                            intro y3201 a3203 a3204 a3205
                            refine s_callV2 (k := 63) (s1 := 2) (s2 := 0) (as := [(0, y3201)]) (rest := []) kx_197_264 kp_197_364 (Or.inl rfl) rfl (tk_63 hT) ki_192 kcl_192 rfl rfl (by decide) (m_192 (d := d + 1) (op := y3201) hT hI3185 (by omega) (by omega)) (kV (fun M3207 hI3207 fr3207 v3206p => ?_))
                            have hFm3207 := hFm3185.call fr3207 rfl
                            have tr3208 := (fr3207 63 3 rfl)
                            have tr3209 := (fr3207 63 4 rfl)
                            have tr3210 := (fr3207 63 5 rfl)
                            have tr3211 := (fr3207 63 9 rfl)
                            have tr3212 := (fr3207 63 35 rfl)
                            have tr3213 := (fr3207 63 42 rfl)
                            have tr3214 := (fr3207 63 43 rfl)
                            have tr3215 := rg_63_9 hI3207
                            refine s_aload_n kx_197_267 rfl ?_
                            refine r_getR (k := 63) (f := 38) (k2 := 86) kx_197_268 kp_197_127 (tk_63 hT) kf_12_38 (by decide) (rq_63_38 hI3207) ?_
                            refine s_iload_n kx_197_271 rfl ?_
                            refine s_iconst (v := 1) kx_197_272 (by decide) ?_
                            refine r_ast (k := 86) kx_197_273 (tk_86 hT) ⟨by omega, by omega⟩ hI3207 (ru_86 (by omega) (by omega)) (fun M3217 hI3217 u3217 => ?_)
                            have hFm3217 := hFm3207.up u3217 rfl
                            have tr3218 := (u3217.2 63 3 (by omega))
                            have tr3219 := (u3217.2 63 4 (by omega))
                            have tr3220 := (u3217.2 63 5 (by omega))
                            have tr3221 := (u3217.2 63 9 (by omega))
                            have tr3222 := (u3217.2 63 35 (by omega))
                            have tr3223 := (u3217.2 63 42 (by omega))
                            have tr3224 := (u3217.2 63 43 (by omega))
                            have tr3225 := (u3217.2 63 45 (by omega))
                            have hP3226 := PI.holdC v3184p.1 (f := (v13 - 1)) (by omega) ((fr3185 86 _ rfl).trans hph2402) (B0.fr (B0.fr hB fr2 rfl (fun _ => rfl)) fr3185 rfl (fun _ => rfl)) (by omega) fr3207 v3206p.1 v3206p.2.1 v3206p.2.2 u3217
                            refine s_aload_n kx_197_274 rfl ?_
                            refine s_callV2 (k := 63) (s1 := 1) (s2 := 0) (as := []) (rest := []) kx_197_275 kp_197_286 (Or.inl rfl) rfl (tk_63 hT) ki_180 kcl_180 rfl rfl (by decide) (m_180 (d := d) hT hI3217) (kV (fun M3228 hI3228 fr3228 v3227p => ?_))
                            have hFm3228 := hFm3217.call fr3228 rfl
                            have tr3229 := (fr3228 63 9 rfl)
                            have tr3230 := (fr3228 63 35 rfl)
                            have tr3231 := (fr3228 63 42 rfl)
                            have tr3232 := (fr3228 63 43 rfl)
                            have tr3233 := (fr3228 63 45 rfl)
                            have tr3234 := rg_63_9 hI3228
                            refine s_aload_n kx_197_278 rfl ?_
                            refine s_iconst (v := 0) kx_197_279 (by decide) ?_
                            refine r_put (k := 63) (f := 46) kx_197_280 kp_197_152 (tk_63 hT) kf_12_46 rfl (by decide) (by decide) hI3228 (ru_63_46 (by omega) (by omega)) (fun M3235 hI3235 u3235 => ?_)
                            have hFm3235 := hFm3228.up u3235 rfl
                            have tr3236 := (u3235.2 63 3 (by omega))
                            have tr3237 := (u3235.2 63 4 (by omega))
                            have tr3238 := (u3235.2 63 5 (by omega))
                            have tr3239 := (u3235.2 63 9 (by omega))
                            have tr3240 := (u3235.2 63 35 (by omega))
                            have tr3241 := (u3235.2 63 42 (by omega))
                            have tr3242 := (u3235.2 63 43 (by omega))
                            have tr3243 := (u3235.2 63 45 (by omega))
                            refine s_iconst (v := 1) kx_197_283 (by decide) ?_
                            have hk3244 : M3235 63 9 = v11 := ((u3235.2 63 9 (by omega)).trans ((fr3228 63 9 rfl).trans ((u3217.2 63 9 (by omega)).trans ((fr3207 63 9 rfl).trans ((fr3185 63 9 rfl).trans v11e)))))
                            exact s_iret kx_197_284 (Or.inr ⟨kq_197, by omega⟩) ⟨_, _, rfl, rfl, hI3235, hFm3235, ⟨by omega, by omega, (LXp.up (show LXp M3228 from v3227p.2) u3235 (by decide)), (by omega), (by omega), ⟨(Or.inr (Or.inr ⟨rfl, by omega, Or.inl ⟨u3235.1, PI.to7 (PI.fr (PI.fr hP3226 fr3228 rfl) (Up.fr u3235) rfl) (by omega)⟩⟩)), (KP.up (KP.fr (KP.up (KP.fr hK3194 fr3207 (fun _ => rfl)) u3217 (by decide)) fr3228 (fun _ => rfl)) u3235 (by decide))⟩⟩⟩
                          refine s_if_eq (t := 248) kx_197_240 (by decide) (fun hc3196 => ?_) (fun hc3196 => ?_)
                          · have hJ3197 : Fr fS_197_j240 M3185 M3185 := Fr.refl
                            replace v3195p := v3195p.resolve_left (by omega)
                            refine s_aload_n kx_197_248 rfl ?_
                            refine s_bipush (v := 62) kx_197_249 (by decide) ?_
                            refine s_callV2 (k := 63) (s1 := 2) (s2 := 1) (as := [(0, 62)]) (rest := [rf 63]) kx_197_251 kp_197_283 (Or.inl rfl) rfl (tk_63 hT) ki_181 kcl_181 rfl rfl (by decide) (m_181 (d := d + 1) (c := 62) hT hI3185) (kF (fun v3198 v3198p => ?_))
                            refine s_if_eq (t := 262) kx_197_254 (by decide) (fun hc3199 => ?_) (fun hc3199 => ?_)
                            · replace v3198p := v3198p.resolve_left (by omega)
                              refine s_bipush (v := 19) kx_197_262 (by decide) ?_
                              exact cP.wk (lS1 rfl (lS1 rfl lS0)) (jn3202 19 (by omega) (by omega) (by omega))
                            · replace v3198p := v3198p.resolve_right (by omega)
                              refine s_bipush (v := 18) kx_197_257 (by decide) ?_
                              refine s_goto (t := 264) kx_197_259 (by decide) ?_
                              exact cP.wk (lS1 rfl (lS1 rfl lS0)) (jn3202 18 (by omega) (by omega) (by omega))
                          · have hJ3200 : Fr fS_197_j240 M3185 M3185 := Fr.refl
                            replace v3195p := v3195p.resolve_right (by omega)
                            refine s_bipush (v := 17) kx_197_243 (by decide) ?_
                            refine s_goto (t := 264) kx_197_245 (by decide) ?_
                            exact cP.wk (lS1 rfl (lS1 rfl lS0)) (jn3202 17 (by omega) (by omega) (by omega))
              · replace v1349p := v1349p.resolve_right (by omega)
                refine s_aload_n kx_197_87 rfl ?_
                refine s_aload_n kx_197_88 rfl ?_
                refine s_bipush (v := 43) kx_197_89 (by decide) ?_
                refine s_callV2 (k := 63) (s1 := 2) (s2 := 1) (as := [(0, 43)]) (rest := [rf 63]) kx_197_91 kp_197_283 (Or.inl rfl) rfl (tk_63 hT) ki_181 kcl_181 rfl rfl (by decide) (m_181 (d := d + 1) (c := 43) hT hI2) (kF (fun v3245 v3245p => ?_))
                have jn3252 : ∀ (y3251 : Int), (5 ≤ y3251) → (y3251 ≤ 6) → ((y3251 = 5 ∧ (isS M2 43 = 1 ∨ isS M2 45 = 1)) ∨ (y3251 = 6 ∧ isS M2 43 = 0 ∧ isS M2 45 = 0)) → cP k_P xs Ln (d + 2) 197 112 [(0, rf 63)] [(0, y3251), rf 63] (T, M2) (qW T M fS_197_m 0 (fun v M1 => 0 ≤ v ∧ v ≤ 1 ∧ (LXp M1 ∧ M 63 4 ≤ M1 63 4 ∧ M 63 9 ≤ M1 63 9 ∧ (GOd M M1 c a v ∧ KP M M1)))) := by
                  intro y3251 a3253 a3254 a3255
                  refine s_callV2 (k := 63) (s1 := 2) (s2 := 0) (as := [(0, y3251)]) (rest := []) kx_197_112 kp_197_370 (Or.inl rfl) rfl (tk_63 hT) ki_191 kcl_191 rfl rfl (by decide) (m_191 (d := d) (least := y3251) hT hI2 (PI.fr hP fr2 rfl) (by omega) (by omega) (by omega)) (kV (fun M3257 hI3257 fr3257 v3256p => ?_))
                  have hFm3257 := hFm2.call fr3257 rfl
                  have tr3258 := (fr3257 63 3 rfl)
                  have tr3259 := (fr3257 63 4 rfl)
                  have tr3260 := (fr3257 63 5 rfl)
                  have tr3261 := (fr3257 63 9 rfl)
                  have tr3262 := (fr3257 63 42 rfl)
                  have tr3263 := rg_63_9 hI3257
                  have hd3264 := PI.deep v3256p.1
                  have hs3265 := PI.small v3256p.1 (rg_63_43 hI3257).2 (by decide)
                  have hs3265a := hs3265.1
                  have hs3265b := hs3265.2.1
                  have hs3265c := rg_63_45 hI3257
                  have hK3266 := KP.trans (KP.fr (KP.refl (M := M)) fr2 (fun _ => rfl)) (fr2 63 36 rfl) v3256p.2
                  have hi3267 := isS_fr (c := 43) fr3257 rfl rfl
                  have hi3268 := isS_fr (c := 45) fr3257 rfl rfl
                  refine s_aload_n kx_197_115 rfl ?_
                  refine s_aload_n kx_197_116 rfl ?_
                  refine s_bipush (v := 43) kx_197_117 (by decide) ?_
                  refine s_callV2 (k := 63) (s1 := 2) (s2 := 1) (as := [(0, 43)]) (rest := [rf 63]) kx_197_119 kp_197_283 (Or.inl rfl) rfl (tk_63 hT) ki_181 kcl_181 rfl rfl (by decide) (m_181 (d := d + 1) (c := 43) hT hI3257) (kF (fun v3269 v3269p => ?_))
                  have jn3280 : ∀ (y3279 : Int), (10 ≤ y3279) → (y3279 ≤ 14) → ((y3279 ≤ 11 ∧ (isS M3257 43 = 1 ∨ isS M3257 45 = 1)) ∨ (12 ≤ y3279 ∧ isS M3257 43 = 0 ∧ isS M3257 45 = 0)) → cP k_P xs Ln (d + 2) 197 174 [(0, rf 63)] [(0, y3279), rf 63] (T, M3257) (qW T M fS_197_m 0 (fun v M1 => 0 ≤ v ∧ v ≤ 1 ∧ (LXp M1 ∧ M 63 4 ≤ M1 63 4 ∧ M 63 9 ≤ M1 63 9 ∧ (GOd M M1 c a v ∧ KP M M1)))) := by
                    intro y3279 a3281 a3282 a3283
                    refine s_callV2 (k := 63) (s1 := 2) (s2 := 0) (as := [(0, y3279)]) (rest := []) kx_197_174 kp_197_364 (Or.inl rfl) rfl (tk_63 hT) ki_192 kcl_192 rfl rfl (by decide) (m_192 (d := d + 1) (op := y3279) hT hI3257 (by omega) (by omega)) (kV (fun M3285 hI3285 fr3285 v3284p => ?_))
                    have hFm3285 := hFm3257.call fr3285 rfl
                    have tr3286 := (fr3285 63 3 rfl)
                    have tr3287 := (fr3285 63 4 rfl)
                    have tr3288 := (fr3285 63 5 rfl)
                    have tr3289 := (fr3285 63 9 rfl)
                    have tr3290 := (fr3285 63 35 rfl)
                    have tr3291 := (fr3285 63 42 rfl)
                    have tr3292 := (fr3285 63 43 rfl)
                    have tr3293 := rg_63_9 hI3285
                    have hP3294 := PI.holdA v3256p.1 (B0.fr (B0.fr hB fr2 rfl (fun _ => rfl)) fr3257 rfl (fun _ => rfl)) (by omega) fr3285 v3284p.1 v3284p.2.1 v3284p.2.2
                    refine s_aload_n kx_197_177 rfl ?_
                    refine s_callV2 (k := 63) (s1 := 1) (s2 := 0) (as := []) (rest := []) kx_197_178 kp_197_286 (Or.inl rfl) rfl (tk_63 hT) ki_180 kcl_180 rfl rfl (by decide) (m_180 (d := d) hT hI3285) (kV (fun M3296 hI3296 fr3296 v3295p => ?_))
                    have hFm3296 := hFm3285.call fr3296 rfl
                    have tr3297 := (fr3296 63 9 rfl)
                    have tr3298 := (fr3296 63 35 rfl)
                    have tr3299 := (fr3296 63 42 rfl)
                    have tr3300 := (fr3296 63 43 rfl)
                    have tr3301 := (fr3296 63 45 rfl)
                    have tr3302 := rg_63_9 hI3296
                    refine s_aload_n kx_197_181 rfl ?_
                    refine s_iconst (v := 0) kx_197_182 (by decide) ?_
                    refine r_put (k := 63) (f := 46) kx_197_183 kp_197_152 (tk_63 hT) kf_12_46 rfl (by decide) (by decide) hI3296 (ru_63_46 (by omega) (by omega)) (fun M3303 hI3303 u3303 => ?_)
                    have hFm3303 := hFm3296.up u3303 rfl
                    have tr3304 := (u3303.2 63 3 (by omega))
                    have tr3305 := (u3303.2 63 4 (by omega))
                    have tr3306 := (u3303.2 63 5 (by omega))
                    have tr3307 := (u3303.2 63 9 (by omega))
                    have tr3308 := (u3303.2 63 35 (by omega))
                    have tr3309 := (u3303.2 63 42 (by omega))
                    have tr3310 := (u3303.2 63 43 (by omega))
                    have tr3311 := (u3303.2 63 45 (by omega))
                    refine s_iconst (v := 1) kx_197_186 (by decide) ?_
                    have hk3312 : M3303 63 9 = v11 := ((u3303.2 63 9 (by omega)).trans ((fr3296 63 9 rfl).trans ((fr3285 63 9 rfl).trans ((fr3257 63 9 rfl).trans v11e))))
                    exact s_iret kx_197_187 (Or.inr ⟨kq_197, by omega⟩) ⟨_, _, rfl, rfl, hI3303, hFm3303, ⟨by omega, by omega, (LXp.up (show LXp M3296 from v3295p.2) u3303 (by decide)), (by omega), (by omega), ⟨(Or.inr (Or.inr ⟨rfl, by omega, Or.inl ⟨u3303.1, PI.to7 (PI.fr (PI.fr hP3294 fr3296 rfl) (Up.fr u3303) rfl) (by omega)⟩⟩)), (KP.up (KP.fr (KP.fr hK3266 fr3285 (fun _ => rfl)) fr3296 (fun _ => rfl)) u3303 (by decide))⟩⟩⟩
                  refine s_if_eq (t := 130) kx_197_122 (by decide) (fun hc3270 => ?_) (fun hc3270 => ?_)
                  · have hJ3271 : Fr fS_197_j122 M3257 M3257 := Fr.refl
                    replace v3269p := v3269p.resolve_left (by omega)
                    refine s_aload_n kx_197_130 rfl ?_
                    refine s_bipush (v := 45) kx_197_131 (by decide) ?_
                    refine s_callV2 (k := 63) (s1 := 2) (s2 := 1) (as := [(0, 45)]) (rest := [rf 63]) kx_197_133 kp_197_283 (Or.inl rfl) rfl (tk_63 hT) ki_181 kcl_181 rfl rfl (by decide) (m_181 (d := d + 1) (c := 45) hT hI3257) (kF (fun v3272 v3272p => ?_))
                    refine s_if_eq (t := 144) kx_197_136 (by decide) (fun hc3273 => ?_) (fun hc3273 => ?_)
                    · replace v3272p := v3272p.resolve_left (by omega)
                      refine s_aload_n kx_197_144 rfl ?_
                      refine s_bipush (v := 42) kx_197_145 (by decide) ?_
                      refine s_callV2 (k := 63) (s1 := 2) (s2 := 1) (as := [(0, 42)]) (rest := [rf 63]) kx_197_147 kp_197_283 (Or.inl rfl) rfl (tk_63 hT) ki_181 kcl_181 rfl rfl (by decide) (m_181 (d := d + 1) (c := 42) hT hI3257) (kF (fun v3274 v3274p => ?_))
                      refine s_if_eq (t := 158) kx_197_150 (by decide) (fun hc3275 => ?_) (fun hc3275 => ?_)
                      · replace v3274p := v3274p.resolve_left (by omega)
                        refine s_aload_n kx_197_158 rfl ?_
                        refine s_bipush (v := 47) kx_197_159 (by decide) ?_
                        refine s_callV2 (k := 63) (s1 := 2) (s2 := 1) (as := [(0, 47)]) (rest := [rf 63]) kx_197_161 kp_197_283 (Or.inl rfl) rfl (tk_63 hT) ki_181 kcl_181 rfl rfl (by decide) (m_181 (d := d + 1) (c := 47) hT hI3257) (kF (fun v3276 v3276p => ?_))
                        refine s_if_eq (t := 172) kx_197_164 (by decide) (fun hc3277 => ?_) (fun hc3277 => ?_)
                        · replace v3276p := v3276p.resolve_left (by omega)
                          refine s_bipush (v := 14) kx_197_172 (by decide) ?_
                          exact cP.wk (lS1 rfl lS0) (jn3280 14 (by omega) (by omega) (by omega))
                        · replace v3276p := v3276p.resolve_right (by omega)
                          refine s_bipush (v := 13) kx_197_167 (by decide) ?_
                          refine s_goto (t := 174) kx_197_169 (by decide) ?_
                          exact cP.wk (lS1 rfl lS0) (jn3280 13 (by omega) (by omega) (by omega))
                      · replace v3274p := v3274p.resolve_right (by omega)
                        refine s_bipush (v := 12) kx_197_153 (by decide) ?_
                        refine s_goto (t := 174) kx_197_155 (by decide) ?_
                        exact cP.wk (lS1 rfl lS0) (jn3280 12 (by omega) (by omega) (by omega))
                    · replace v3272p := v3272p.resolve_right (by omega)
                      refine s_bipush (v := 11) kx_197_139 (by decide) ?_
                      refine s_goto (t := 174) kx_197_141 (by decide) ?_
                      exact cP.wk (lS1 rfl lS0) (jn3280 11 (by omega) (by omega) (by omega))
                  · have hJ3278 : Fr fS_197_j122 M3257 M3257 := Fr.refl
                    replace v3269p := v3269p.resolve_right (by omega)
                    refine s_bipush (v := 10) kx_197_125 (by decide) ?_
                    refine s_goto (t := 174) kx_197_127 (by decide) ?_
                    exact cP.wk (lS1 rfl lS0) (jn3280 10 (by omega) (by omega) (by omega))
                refine s_if_ne (t := 106) kx_197_94 (by decide) (fun hc3246 => ?_) (fun hc3246 => ?_)
                · have hJ3247 : Fr fS_197_j94 M2 M2 := Fr.refl
                  replace v3245p := v3245p.resolve_right (by omega)
                  refine s_iconst (v := 5) kx_197_106 (by decide) ?_
                  refine s_goto (t := 112) kx_197_107 (by decide) ?_
                  exact cP.wk (lS1 rfl lS0) (jn3252 5 (by omega) (by omega) (by omega))
                · have hJ3248 : Fr fS_197_j94 M2 M2 := Fr.refl
                  replace v3245p := v3245p.resolve_left (by omega)
                  refine s_aload_n kx_197_97 rfl ?_
                  refine s_bipush (v := 45) kx_197_98 (by decide) ?_
                  refine s_callV2 (k := 63) (s1 := 2) (s2 := 1) (as := [(0, 45)]) (rest := [rf 63]) kx_197_100 kp_197_283 (Or.inl rfl) rfl (tk_63 hT) ki_181 kcl_181 rfl rfl (by decide) (m_181 (d := d + 1) (c := 45) hT hI2) (kF (fun v3249 v3249p => ?_))
                  refine s_if_eq (t := 110) kx_197_103 (by decide) (fun hc3250 => ?_) (fun hc3250 => ?_)
                  · replace v3249p := v3249p.resolve_left (by omega)
                    refine s_bipush (v := 6) kx_197_110 (by decide) ?_
                    exact cP.wk (lS1 rfl lS0) (jn3252 6 (by omega) (by omega) (by omega))
                  · replace v3249p := v3249p.resolve_right (by omega)
                    refine s_iconst (v := 5) kx_197_106 (by decide) ?_
                    refine s_goto (t := 112) kx_197_107 (by decide) ?_
                    exact cP.wk (lS1 rfl lS0) (jn3252 5 (by omega) (by omega) (by omega))
  · refine s_iconst (v := 0) kx_197_11 (by decide) ?_
    have hk3313 : M2 63 9 = v11 := v11e
    exact s_iret kx_197_12 (Or.inr ⟨kq_197, by omega⟩) ⟨_, _, rfl, rfl, hI2, hFm2, ⟨by omega, by omega, (LXp.fr hX fr2 rfl), (by omega), (by omega), ⟨(Or.inl (by omega)), (KP.fr (KP.refl (M := M)) fr2 (fun _ => rfl))⟩⟩⟩
