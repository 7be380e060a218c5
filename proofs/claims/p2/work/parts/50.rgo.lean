theorem kx_197_0 : x_code k_P 197 0 = some (.aload_n 0, 1) := by decide +kernel
theorem kx_197_1 : x_code k_P 197 1 = some (.invokevirtual 280, 3) := by decide +kernel
theorem kp_197_280 : x_pool k_P 197 280 = (2, 179, 0) := by decide +kernel
theorem kx_197_4 : x_code k_P 197 4 = some (.aload_n 0, 1) := by decide +kernel
theorem kx_197_5 : x_code k_P 197 5 = some (.getfield 39, 3) := by decide +kernel
theorem kp_197_39 : x_pool k_P 197 39 = (1, 12, 9) := by decide +kernel
theorem kx_197_8 : x_code k_P 197 8 = some (.ifCond .le 5, 3) := by decide +kernel
theorem kx_197_13 : x_code k_P 197 13 = some (.aload_n 0, 1) := by decide +kernel
theorem kx_197_14 : x_code k_P 197 14 = some (.getfield 140, 3) := by decide +kernel
theorem kp_197_140 : x_pool k_P 197 140 = (1, 12, 42) := by decide +kernel
theorem kx_197_17 : x_code k_P 197 17 = some (.iconst 1, 1) := by decide +kernel
theorem kx_197_18 : x_code k_P 197 18 = some (.isub, 1) := by decide +kernel
theorem kx_197_19 : x_code k_P 197 19 = some (.istore_n 1, 1) := by decide +kernel
theorem km_197_1 : 1 < x_maxL k_P 197 := by decide +kernel
theorem kx_197_20 : x_code k_P 197 20 = some (.aload_n 0, 1) := by decide +kernel
theorem kx_197_21 : x_code k_P 197 21 = some (.getfield 124, 3) := by decide +kernel
theorem kp_197_124 : x_pool k_P 197 124 = (1, 12, 37) := by decide +kernel
theorem kx_197_24 : x_code k_P 197 24 = some (.iload_n 1, 1) := by decide +kernel
theorem kx_197_25 : x_code k_P 197 25 = some (.iaload, 1) := by decide +kernel
theorem kx_197_26 : x_code k_P 197 26 = some (.istore_n 2, 1) := by decide +kernel
theorem km_197_2 : 2 < x_maxL k_P 197 := by decide +kernel
theorem kx_197_27 : x_code k_P 197 27 = some (.iload_n 2, 1) := by decide +kernel
theorem kx_197_28 : x_code k_P 197 28 = some (.invokestatic 358, 3) := by decide +kernel
theorem kp_197_358 : x_pool k_P 197 358 = (6, 195, 1) := by decide +kernel
theorem kx_197_31 : x_code k_P 197 31 = some (.istore_n 3, 1) := by decide +kernel
theorem km_197_3 : 3 < x_maxL k_P 197 := by decide +kernel
theorem kx_197_32 : x_code k_P 197 32 = some (.aload_n 0, 1) := by decide +kernel
theorem kx_197_33 : x_code k_P 197 33 = some (.getfield 127, 3) := by decide +kernel
theorem kp_197_127 : x_pool k_P 197 127 = (1, 12, 38) := by decide +kernel
theorem kx_197_36 : x_code k_P 197 36 = some (.iload_n 1, 1) := by decide +kernel
theorem kx_197_37 : x_code k_P 197 37 = some (.iaload, 1) := by decide +kernel
theorem kx_197_38 : x_code k_P 197 38 = some (.iconst 2, 1) := by decide +kernel
theorem kx_197_39 : x_code k_P 197 39 = some (.if_icmp .ge 149, 3) := by decide +kernel
theorem kx_197_188 : x_code k_P 197 188 = some (.iload_n 3, 1) := by decide +kernel
theorem kx_197_189 : x_code k_P 197 189 = some (.ifCond .eq 96, 3) := by decide +kernel
theorem kx_197_285 : x_code k_P 197 285 = some (.iload_n 3, 1) := by decide +kernel
theorem kx_197_286 : x_code k_P 197 286 = some (.ifCond .eq 114, 3) := by decide +kernel
theorem kx_197_400 : x_code k_P 197 400 = some (.iload_n 3, 1) := by decide +kernel
theorem kx_197_401 : x_code k_P 197 401 = some (.ifCond .eq 21, 3) := by decide +kernel
theorem kx_197_422 : x_code k_P 197 422 = some (.iload_n 2, 1) := by decide +kernel
theorem kx_197_423 : x_code k_P 197 423 = some (.iconst 2, 1) := by decide +kernel
theorem kx_197_424 : x_code k_P 197 424 = some (.if_icmp .ge 17, 3) := by decide +kernel
theorem kx_197_441 : x_code k_P 197 441 = some (.iload_n 2, 1) := by decide +kernel
theorem kx_197_442 : x_code k_P 197 442 = some (.iconst 3, 1) := by decide +kernel
theorem kx_197_443 : x_code k_P 197 443 = some (.if_icmp .eq 9, 3) := by decide +kernel
theorem kx_197_452 : x_code k_P 197 452 = some (.aload_n 0, 1) := by decide +kernel
theorem kx_197_453 : x_code k_P 197 453 = some (.bipush 44, 2) := by decide +kernel
theorem kx_197_455 : x_code k_P 197 455 = some (.invokevirtual 283, 3) := by decide +kernel
theorem kp_197_283 : x_pool k_P 197 283 = (2, 181, 1) := by decide +kernel
theorem kx_197_458 : x_code k_P 197 458 = some (.ifCond .ne 12, 3) := by decide +kernel
theorem kx_197_470 : x_code k_P 197 470 = some (.aload_n 0, 1) := by decide +kernel
theorem kx_197_471 : x_code k_P 197 471 = some (.getfield 39, 3) := by decide +kernel
theorem kx_197_474 : x_code k_P 197 474 = some (.ifCond .le 5, 3) := by decide +kernel
theorem kx_197_479 : x_code k_P 197 479 = some (.aload_n 0, 1) := by decide +kernel
theorem kx_197_480 : x_code k_P 197 480 = some (.iconst 1, 1) := by decide +kernel
theorem kx_197_481 : x_code k_P 197 481 = some (.invokevirtual 370, 3) := by decide +kernel
theorem kp_197_370 : x_pool k_P 197 370 = (2, 191, 1) := by decide +kernel
theorem ki_191 : x_mci k_P 191 = 12 := by decide +kernel
theorem kcl_191 : x_maxL k_P 191 ≤ 60 ∧ 2 ≤ x_maxL k_P 191 := by decide +kernel
theorem kx_197_484 : x_code k_P 197 484 = some (.aload_n 0, 1) := by decide +kernel
theorem kx_197_485 : x_code k_P 197 485 = some (.getfield 124, 3) := by decide +kernel
theorem kx_197_488 : x_code k_P 197 488 = some (.iload_n 1, 1) := by decide +kernel
theorem kx_197_489 : x_code k_P 197 489 = some (.iload_n 2, 1) := by decide +kernel
theorem kx_197_490 : x_code k_P 197 490 = some (.iconst 3, 1) := by decide +kernel
theorem kx_197_491 : x_code k_P 197 491 = some (.if_icmp .ne 7, 3) := by decide +kernel
theorem kx_197_494 : x_code k_P 197 494 = some (.iconst 4, 1) := by decide +kernel
theorem kx_197_495 : x_code k_P 197 495 = some (.goto 4, 3) := by decide +kernel
theorem kx_197_499 : x_code k_P 197 499 = some (.iastore, 1) := by decide +kernel
theorem kx_197_500 : x_code k_P 197 500 = some (.aload_n 0, 1) := by decide +kernel
theorem kx_197_501 : x_code k_P 197 501 = some (.getfield 127, 3) := by decide +kernel
theorem kx_197_504 : x_code k_P 197 504 = some (.iload_n 1, 1) := by decide +kernel
theorem kx_197_505 : x_code k_P 197 505 = some (.iconst 0, 1) := by decide +kernel
theorem kx_197_506 : x_code k_P 197 506 = some (.iastore, 1) := by decide +kernel
theorem kx_197_507 : x_code k_P 197 507 = some (.aload_n 0, 1) := by decide +kernel
theorem kx_197_508 : x_code k_P 197 508 = some (.invokevirtual 286, 3) := by decide +kernel
theorem kp_197_286 : x_pool k_P 197 286 = (2, 180, 0) := by decide +kernel
theorem kx_197_511 : x_code k_P 197 511 = some (.aload_n 0, 1) := by decide +kernel
theorem kx_197_512 : x_code k_P 197 512 = some (.iconst 0, 1) := by decide +kernel
theorem kx_197_513 : x_code k_P 197 513 = some (.putfield 152, 3) := by decide +kernel
theorem kp_197_152 : x_pool k_P 197 152 = (1, 12, 46) := by decide +kernel
theorem kf_12_46 : (x_cls k_P 12)[46]? = some 3 := by decide +kernel
theorem kx_197_516 : x_code k_P 197 516 = some (.iconst 1, 1) := by decide +kernel
theorem kx_197_517 : x_code k_P 197 517 = some (.ireturn, 1) := by decide +kernel
theorem kq_197 : x_retk k_P 197 = 2 := by decide +kernel
theorem kx_197_461 : x_code k_P 197 461 = some (.aload_n 0, 1) := by decide +kernel
theorem kx_197_462 : x_code k_P 197 462 = some (.iconst 1, 1) := by decide +kernel
theorem kx_197_463 : x_code k_P 197 463 = some (.aload_n 0, 1) := by decide +kernel
theorem kx_197_464 : x_code k_P 197 464 = some (.getfield 23, 3) := by decide +kernel
theorem kp_197_23 : x_pool k_P 197 23 = (1, 12, 4) := by decide +kernel
theorem kx_197_467 : x_code k_P 197 467 = some (.invokevirtual 263, 3) := by decide +kernel
theorem kp_197_263 : x_pool k_P 197 263 = (2, 176, 2) := by decide +kernel
theorem kx_197_477 : x_code k_P 197 477 = some (.iconst 0, 1) := by decide +kernel
theorem kx_197_478 : x_code k_P 197 478 = some (.ireturn, 1) := by decide +kernel
theorem kx_197_446 : x_code k_P 197 446 = some (.iload_n 2, 1) := by decide +kernel
theorem kx_197_447 : x_code k_P 197 447 = some (.bipush 6, 2) := by decide +kernel
theorem kx_197_449 : x_code k_P 197 449 = some (.if_icmp .ne 69, 3) := by decide +kernel
theorem kx_197_518 : x_code k_P 197 518 = some (.aload_n 0, 1) := by decide +kernel
theorem kx_197_519 : x_code k_P 197 519 = some (.iload_n 2, 1) := by decide +kernel
theorem kx_197_520 : x_code k_P 197 520 = some (.iconst 5, 1) := by decide +kernel
theorem kx_197_521 : x_code k_P 197 521 = some (.if_icmp .ne 8, 3) := by decide +kernel
theorem kx_197_529 : x_code k_P 197 529 = some (.bipush 41, 2) := by decide +kernel
theorem kx_197_524 : x_code k_P 197 524 = some (.bipush 93, 2) := by decide +kernel
theorem kx_197_526 : x_code k_P 197 526 = some (.goto 5, 3) := by decide +kernel
theorem kx_197_531 : x_code k_P 197 531 = some (.invokevirtual 283, 3) := by decide +kernel
theorem kx_197_534 : x_code k_P 197 534 = some (.ifCond .ne 12, 3) := by decide +kernel
theorem kx_197_546 : x_code k_P 197 546 = some (.aload_n 0, 1) := by decide +kernel
theorem kx_197_547 : x_code k_P 197 547 = some (.getfield 39, 3) := by decide +kernel
theorem kx_197_550 : x_code k_P 197 550 = some (.ifCond .le 5, 3) := by decide +kernel
theorem kx_197_555 : x_code k_P 197 555 = some (.aload_n 0, 1) := by decide +kernel
theorem kx_197_556 : x_code k_P 197 556 = some (.iconst 1, 1) := by decide +kernel
theorem kx_197_557 : x_code k_P 197 557 = some (.invokevirtual 370, 3) := by decide +kernel
theorem kx_197_560 : x_code k_P 197 560 = some (.aload_n 0, 1) := by decide +kernel
theorem kx_197_561 : x_code k_P 197 561 = some (.dup, 1) := by decide +kernel
theorem kx_197_562 : x_code k_P 197 562 = some (.getfield 140, 3) := by decide +kernel
theorem kx_197_565 : x_code k_P 197 565 = some (.iconst 1, 1) := by decide +kernel
theorem kx_197_566 : x_code k_P 197 566 = some (.isub, 1) := by decide +kernel
theorem kx_197_567 : x_code k_P 197 567 = some (.putfield 140, 3) := by decide +kernel
theorem kx_197_570 : x_code k_P 197 570 = some (.aload_n 0, 1) := by decide +kernel
theorem kx_197_571 : x_code k_P 197 571 = some (.dup, 1) := by decide +kernel
theorem kx_197_572 : x_code k_P 197 572 = some (.getfield 143, 3) := by decide +kernel
theorem kp_197_143 : x_pool k_P 197 143 = (1, 12, 43) := by decide +kernel
theorem kx_197_575 : x_code k_P 197 575 = some (.iconst 1, 1) := by decide +kernel
theorem kx_197_576 : x_code k_P 197 576 = some (.isub, 1) := by decide +kernel
theorem kx_197_577 : x_code k_P 197 577 = some (.putfield 143, 3) := by decide +kernel
theorem kx_197_580 : x_code k_P 197 580 = some (.iload_n 2, 1) := by decide +kernel
theorem kx_197_581 : x_code k_P 197 581 = some (.iconst 4, 1) := by decide +kernel
theorem kx_197_582 : x_code k_P 197 582 = some (.if_icmp .ne 14, 3) := by decide +kernel
theorem kx_197_596 : x_code k_P 197 596 = some (.iload_n 2, 1) := by decide +kernel
theorem kx_197_597 : x_code k_P 197 597 = some (.iconst 5, 1) := by decide +kernel
theorem kx_197_598 : x_code k_P 197 598 = some (.if_icmp .ne 15, 3) := by decide +kernel
theorem kx_197_613 : x_code k_P 197 613 = some (.aload_n 0, 1) := by decide +kernel
theorem kx_197_614 : x_code k_P 197 614 = some (.invokevirtual 286, 3) := by decide +kernel
theorem kx_197_617 : x_code k_P 197 617 = some (.iconst 1, 1) := by decide +kernel
theorem kx_197_618 : x_code k_P 197 618 = some (.ireturn, 1) := by decide +kernel
theorem kx_197_601 : x_code k_P 197 601 = some (.aload_n 0, 1) := by decide +kernel
theorem kx_197_602 : x_code k_P 197 602 = some (.getfield 127, 3) := by decide +kernel
theorem kx_197_605 : x_code k_P 197 605 = some (.aload_n 0, 1) := by decide +kernel
theorem kx_197_606 : x_code k_P 197 606 = some (.getfield 140, 3) := by decide +kernel
theorem kx_197_609 : x_code k_P 197 609 = some (.iconst 1, 1) := by decide +kernel
theorem kx_197_610 : x_code k_P 197 610 = some (.isub, 1) := by decide +kernel
theorem kx_197_611 : x_code k_P 197 611 = some (.iconst 2, 1) := by decide +kernel
theorem kx_197_612 : x_code k_P 197 612 = some (.iastore, 1) := by decide +kernel
theorem kx_197_585 : x_code k_P 197 585 = some (.aload_n 0, 1) := by decide +kernel
theorem kx_197_586 : x_code k_P 197 586 = some (.aload_n 0, 1) := by decide +kernel
theorem kx_197_587 : x_code k_P 197 587 = some (.getfield 134, 3) := by decide +kernel
theorem kp_197_134 : x_pool k_P 197 134 = (1, 12, 40) := by decide +kernel
theorem kx_197_590 : x_code k_P 197 590 = some (.iload_n 1, 1) := by decide +kernel
theorem kx_197_591 : x_code k_P 197 591 = some (.iaload, 1) := by decide +kernel
theorem kx_197_592 : x_code k_P 197 592 = some (.iconst 0, 1) := by decide +kernel
theorem kx_197_593 : x_code k_P 197 593 = some (.invokevirtual 352, 3) := by decide +kernel
theorem kp_197_352 : x_pool k_P 197 352 = (2, 189, 2) := by decide +kernel
theorem kx_197_537 : x_code k_P 197 537 = some (.aload_n 0, 1) := by decide +kernel
theorem kx_197_538 : x_code k_P 197 538 = some (.iconst 1, 1) := by decide +kernel
theorem kx_197_539 : x_code k_P 197 539 = some (.aload_n 0, 1) := by decide +kernel
theorem kx_197_540 : x_code k_P 197 540 = some (.getfield 23, 3) := by decide +kernel
theorem kx_197_543 : x_code k_P 197 543 = some (.invokevirtual 263, 3) := by decide +kernel
theorem kx_197_553 : x_code k_P 197 553 = some (.iconst 0, 1) := by decide +kernel
theorem kx_197_554 : x_code k_P 197 554 = some (.ireturn, 1) := by decide +kernel
theorem kx_197_498 : x_code k_P 197 498 = some (.iconst 3, 1) := by decide +kernel
theorem kx_197_427 : x_code k_P 197 427 = some (.aload_n 0, 1) := by decide +kernel
theorem kx_197_428 : x_code k_P 197 428 = some (.getfield 39, 3) := by decide +kernel
theorem kx_197_431 : x_code k_P 197 431 = some (.ifCond .ne 8, 3) := by decide +kernel
theorem kx_197_434 : x_code k_P 197 434 = some (.aload_n 0, 1) := by decide +kernel
theorem kx_197_435 : x_code k_P 197 435 = some (.iconst 1, 1) := by decide +kernel
theorem kx_197_436 : x_code k_P 197 436 = some (.invokevirtual 370, 3) := by decide +kernel
theorem kx_197_439 : x_code k_P 197 439 = some (.iconst 0, 1) := by decide +kernel
theorem kx_197_440 : x_code k_P 197 440 = some (.ireturn, 1) := by decide +kernel
theorem kx_197_192 : x_code k_P 197 192 = some (.aload_n 0, 1) := by decide +kernel
theorem kx_197_193 : x_code k_P 197 193 = some (.getfield 127, 3) := by decide +kernel
theorem kx_197_196 : x_code k_P 197 196 = some (.iload_n 1, 1) := by decide +kernel
theorem kx_197_197 : x_code k_P 197 197 = some (.iaload, 1) := by decide +kernel
theorem kx_197_198 : x_code k_P 197 198 = some (.ifCond .ne 87, 3) := by decide +kernel
theorem kx_197_289 : x_code k_P 197 289 = some (.aload_n 0, 1) := by decide +kernel
theorem kx_197_290 : x_code k_P 197 290 = some (.ldc2_w 327, 3) := by decide +kernel
theorem kp_197_327 : x_pool k_P 197 327 = (8, 0, 6385252) := by decide +kernel
theorem kx_197_293 : x_code k_P 197 293 = some (.invokevirtual 361, 3) := by decide +kernel
theorem kp_197_361 : x_pool k_P 197 361 = (2, 182, 1) := by decide +kernel
theorem kx_197_296 : x_code k_P 197 296 = some (.ifCond .ne 13, 3) := by decide +kernel
theorem kx_197_309 : x_code k_P 197 309 = some (.aload_n 0, 1) := by decide +kernel
theorem kx_197_310 : x_code k_P 197 310 = some (.getfield 127, 3) := by decide +kernel
theorem kx_197_313 : x_code k_P 197 313 = some (.iload_n 1, 1) := by decide +kernel
theorem kx_197_314 : x_code k_P 197 314 = some (.iaload, 1) := by decide +kernel
theorem kx_197_315 : x_code k_P 197 315 = some (.ifCond .ne 12, 3) := by decide +kernel
theorem kx_197_327 : x_code k_P 197 327 = some (.aload_n 0, 1) := by decide +kernel
theorem kx_197_328 : x_code k_P 197 328 = some (.getfield 39, 3) := by decide +kernel
theorem kx_197_331 : x_code k_P 197 331 = some (.ifCond .le 5, 3) := by decide +kernel
theorem kx_197_336 : x_code k_P 197 336 = some (.aload_n 0, 1) := by decide +kernel
theorem kx_197_337 : x_code k_P 197 337 = some (.ldc2_w 327, 3) := by decide +kernel
theorem kx_197_340 : x_code k_P 197 340 = some (.invokevirtual 361, 3) := by decide +kernel
theorem kx_197_343 : x_code k_P 197 343 = some (.istore 4, 2) := by decide +kernel
theorem km_197_4 : 4 < x_maxL k_P 197 := by decide +kernel
theorem kx_197_345 : x_code k_P 197 345 = some (.aload_n 0, 1) := by decide +kernel
theorem kx_197_346 : x_code k_P 197 346 = some (.iload 4, 2) := by decide +kernel
theorem kx_197_348 : x_code k_P 197 348 = some (.ifCond .eq 7, 3) := by decide +kernel
theorem kx_197_355 : x_code k_P 197 355 = some (.iconst 1, 1) := by decide +kernel
theorem kx_197_351 : x_code k_P 197 351 = some (.iconst 2, 1) := by decide +kernel
theorem kx_197_352 : x_code k_P 197 352 = some (.goto 4, 3) := by decide +kernel
theorem kx_197_356 : x_code k_P 197 356 = some (.invokevirtual 370, 3) := by decide +kernel
theorem kx_197_359 : x_code k_P 197 359 = some (.aload_n 0, 1) := by decide +kernel
theorem kx_197_360 : x_code k_P 197 360 = some (.iload 4, 2) := by decide +kernel
theorem kx_197_362 : x_code k_P 197 362 = some (.ifCond .eq 8, 3) := by decide +kernel
theorem kx_197_370 : x_code k_P 197 370 = some (.bipush 21, 2) := by decide +kernel
theorem kx_197_365 : x_code k_P 197 365 = some (.bipush 20, 2) := by decide +kernel
theorem kx_197_367 : x_code k_P 197 367 = some (.goto 5, 3) := by decide +kernel
theorem kx_197_372 : x_code k_P 197 372 = some (.invokevirtual 364, 3) := by decide +kernel
theorem kp_197_364 : x_pool k_P 197 364 = (2, 192, 1) := by decide +kernel
theorem kx_197_375 : x_code k_P 197 375 = some (.aload_n 0, 1) := by decide +kernel
theorem kx_197_376 : x_code k_P 197 376 = some (.getfield 127, 3) := by decide +kernel
theorem kx_197_379 : x_code k_P 197 379 = some (.iload_n 1, 1) := by decide +kernel
theorem kx_197_380 : x_code k_P 197 380 = some (.iconst 0, 1) := by decide +kernel
theorem kx_197_381 : x_code k_P 197 381 = some (.iastore, 1) := by decide +kernel
theorem kx_197_382 : x_code k_P 197 382 = some (.aload_n 0, 1) := by decide +kernel
theorem kx_197_383 : x_code k_P 197 383 = some (.getfield 130, 3) := by decide +kernel
theorem kp_197_130 : x_pool k_P 197 130 = (1, 12, 39) := by decide +kernel
theorem kx_197_386 : x_code k_P 197 386 = some (.iload_n 1, 1) := by decide +kernel
theorem kx_197_387 : x_code k_P 197 387 = some (.iconst 1, 1) := by decide +kernel
theorem kx_197_388 : x_code k_P 197 388 = some (.bastore, 1) := by decide +kernel
theorem kx_197_389 : x_code k_P 197 389 = some (.aload_n 0, 1) := by decide +kernel
theorem kx_197_390 : x_code k_P 197 390 = some (.invokevirtual 286, 3) := by decide +kernel
theorem kx_197_393 : x_code k_P 197 393 = some (.aload_n 0, 1) := by decide +kernel
theorem kx_197_394 : x_code k_P 197 394 = some (.iconst 0, 1) := by decide +kernel
theorem kx_197_395 : x_code k_P 197 395 = some (.putfield 152, 3) := by decide +kernel
theorem kx_197_398 : x_code k_P 197 398 = some (.iconst 1, 1) := by decide +kernel
theorem kx_197_399 : x_code k_P 197 399 = some (.ireturn, 1) := by decide +kernel
theorem kx_197_299 : x_code k_P 197 299 = some (.aload_n 0, 1) := by decide +kernel
theorem kx_197_300 : x_code k_P 197 300 = some (.ldc2_w 325, 3) := by decide +kernel
theorem kp_197_325 : x_pool k_P 197 325 = (8, 0, 28530) := by decide +kernel
theorem kx_197_303 : x_code k_P 197 303 = some (.invokevirtual 361, 3) := by decide +kernel
theorem kx_197_306 : x_code k_P 197 306 = some (.ifCond .eq 94, 3) := by decide +kernel
theorem kx_197_404 : x_code k_P 197 404 = some (.aload_n 0, 1) := by decide +kernel
theorem kx_197_405 : x_code k_P 197 405 = some (.getfield 127, 3) := by decide +kernel
theorem kx_197_408 : x_code k_P 197 408 = some (.iload_n 1, 1) := by decide +kernel
theorem kx_197_409 : x_code k_P 197 409 = some (.iaload, 1) := by decide +kernel
theorem kx_197_410 : x_code k_P 197 410 = some (.ifCond .ne 12, 3) := by decide +kernel
theorem kx_197_42 : x_code k_P 197 42 = some (.aload_n 0, 1) := by decide +kernel
theorem kx_197_43 : x_code k_P 197 43 = some (.bipush 43, 2) := by decide +kernel
theorem kx_197_45 : x_code k_P 197 45 = some (.invokevirtual 283, 3) := by decide +kernel
theorem kx_197_48 : x_code k_P 197 48 = some (.ifCond .ne 39, 3) := by decide +kernel
theorem kx_197_87 : x_code k_P 197 87 = some (.aload_n 0, 1) := by decide +kernel
theorem kx_197_88 : x_code k_P 197 88 = some (.aload_n 0, 1) := by decide +kernel
theorem kx_197_89 : x_code k_P 197 89 = some (.bipush 43, 2) := by decide +kernel
theorem kx_197_91 : x_code k_P 197 91 = some (.invokevirtual 283, 3) := by decide +kernel
theorem kx_197_94 : x_code k_P 197 94 = some (.ifCond .ne 12, 3) := by decide +kernel
theorem kx_197_106 : x_code k_P 197 106 = some (.iconst 5, 1) := by decide +kernel
theorem kx_197_107 : x_code k_P 197 107 = some (.goto 5, 3) := by decide +kernel
theorem kx_197_97 : x_code k_P 197 97 = some (.aload_n 0, 1) := by decide +kernel
theorem kx_197_98 : x_code k_P 197 98 = some (.bipush 45, 2) := by decide +kernel
theorem kx_197_100 : x_code k_P 197 100 = some (.invokevirtual 283, 3) := by decide +kernel
theorem kx_197_103 : x_code k_P 197 103 = some (.ifCond .eq 7, 3) := by decide +kernel
theorem kx_197_110 : x_code k_P 197 110 = some (.bipush 6, 2) := by decide +kernel
theorem kx_197_112 : x_code k_P 197 112 = some (.invokevirtual 370, 3) := by decide +kernel
theorem kx_197_115 : x_code k_P 197 115 = some (.aload_n 0, 1) := by decide +kernel
theorem kx_197_116 : x_code k_P 197 116 = some (.aload_n 0, 1) := by decide +kernel
theorem kx_197_117 : x_code k_P 197 117 = some (.bipush 43, 2) := by decide +kernel
theorem kx_197_119 : x_code k_P 197 119 = some (.invokevirtual 283, 3) := by decide +kernel
theorem kx_197_122 : x_code k_P 197 122 = some (.ifCond .eq 8, 3) := by decide +kernel
theorem kx_197_130 : x_code k_P 197 130 = some (.aload_n 0, 1) := by decide +kernel
theorem kx_197_131 : x_code k_P 197 131 = some (.bipush 45, 2) := by decide +kernel
theorem kx_197_133 : x_code k_P 197 133 = some (.invokevirtual 283, 3) := by decide +kernel
theorem kx_197_136 : x_code k_P 197 136 = some (.ifCond .eq 8, 3) := by decide +kernel
theorem kx_197_144 : x_code k_P 197 144 = some (.aload_n 0, 1) := by decide +kernel
theorem kx_197_145 : x_code k_P 197 145 = some (.bipush 42, 2) := by decide +kernel
theorem kx_197_147 : x_code k_P 197 147 = some (.invokevirtual 283, 3) := by decide +kernel
theorem kx_197_150 : x_code k_P 197 150 = some (.ifCond .eq 8, 3) := by decide +kernel
theorem kx_197_158 : x_code k_P 197 158 = some (.aload_n 0, 1) := by decide +kernel
theorem kx_197_159 : x_code k_P 197 159 = some (.bipush 47, 2) := by decide +kernel
theorem kx_197_161 : x_code k_P 197 161 = some (.invokevirtual 283, 3) := by decide +kernel
theorem kx_197_164 : x_code k_P 197 164 = some (.ifCond .eq 8, 3) := by decide +kernel
theorem kx_197_172 : x_code k_P 197 172 = some (.bipush 14, 2) := by decide +kernel
theorem kx_197_167 : x_code k_P 197 167 = some (.bipush 13, 2) := by decide +kernel
theorem kx_197_169 : x_code k_P 197 169 = some (.goto 5, 3) := by decide +kernel
theorem kx_197_153 : x_code k_P 197 153 = some (.bipush 12, 2) := by decide +kernel
theorem kx_197_155 : x_code k_P 197 155 = some (.goto 19, 3) := by decide +kernel
theorem kx_197_139 : x_code k_P 197 139 = some (.bipush 11, 2) := by decide +kernel
theorem kx_197_141 : x_code k_P 197 141 = some (.goto 33, 3) := by decide +kernel
theorem kx_197_125 : x_code k_P 197 125 = some (.bipush 10, 2) := by decide +kernel
theorem kx_197_127 : x_code k_P 197 127 = some (.goto 47, 3) := by decide +kernel
theorem kx_197_174 : x_code k_P 197 174 = some (.invokevirtual 364, 3) := by decide +kernel
theorem kx_197_177 : x_code k_P 197 177 = some (.aload_n 0, 1) := by decide +kernel
theorem kx_197_178 : x_code k_P 197 178 = some (.invokevirtual 286, 3) := by decide +kernel
theorem kx_197_181 : x_code k_P 197 181 = some (.aload_n 0, 1) := by decide +kernel
theorem kx_197_182 : x_code k_P 197 182 = some (.iconst 0, 1) := by decide +kernel
theorem kx_197_183 : x_code k_P 197 183 = some (.putfield 152, 3) := by decide +kernel
theorem kx_197_186 : x_code k_P 197 186 = some (.iconst 1, 1) := by decide +kernel
theorem kx_197_187 : x_code k_P 197 187 = some (.ireturn, 1) := by decide +kernel
theorem kx_197_51 : x_code k_P 197 51 = some (.aload_n 0, 1) := by decide +kernel
theorem kx_197_52 : x_code k_P 197 52 = some (.bipush 45, 2) := by decide +kernel
theorem kx_197_54 : x_code k_P 197 54 = some (.invokevirtual 283, 3) := by decide +kernel
theorem kx_197_57 : x_code k_P 197 57 = some (.ifCond .ne 30, 3) := by decide +kernel
theorem kx_197_60 : x_code k_P 197 60 = some (.aload_n 0, 1) := by decide +kernel
theorem kx_197_61 : x_code k_P 197 61 = some (.bipush 42, 2) := by decide +kernel
theorem kx_197_63 : x_code k_P 197 63 = some (.invokevirtual 283, 3) := by decide +kernel
theorem kx_197_66 : x_code k_P 197 66 = some (.ifCond .ne 21, 3) := by decide +kernel
theorem kx_197_69 : x_code k_P 197 69 = some (.aload_n 0, 1) := by decide +kernel
theorem kx_197_70 : x_code k_P 197 70 = some (.bipush 47, 2) := by decide +kernel
theorem kx_197_72 : x_code k_P 197 72 = some (.invokevirtual 283, 3) := by decide +kernel
theorem kx_197_75 : x_code k_P 197 75 = some (.ifCond .ne 12, 3) := by decide +kernel
theorem kx_197_78 : x_code k_P 197 78 = some (.aload_n 0, 1) := by decide +kernel
theorem kx_197_79 : x_code k_P 197 79 = some (.bipush 37, 2) := by decide +kernel
theorem kx_197_81 : x_code k_P 197 81 = some (.invokevirtual 283, 3) := by decide +kernel
theorem kx_197_84 : x_code k_P 197 84 = some (.ifCond .eq 104, 3) := by decide +kernel
theorem kx_197_201 : x_code k_P 197 201 = some (.aload_n 0, 1) := by decide +kernel
theorem kx_197_202 : x_code k_P 197 202 = some (.bipush 60, 2) := by decide +kernel
theorem kx_197_204 : x_code k_P 197 204 = some (.invokevirtual 283, 3) := by decide +kernel
theorem kx_197_207 : x_code k_P 197 207 = some (.ifCond .ne 21, 3) := by decide +kernel
theorem kx_197_228 : x_code k_P 197 228 = some (.aload_n 0, 1) := by decide +kernel
theorem kx_197_229 : x_code k_P 197 229 = some (.iconst 5, 1) := by decide +kernel
theorem kx_197_230 : x_code k_P 197 230 = some (.invokevirtual 370, 3) := by decide +kernel
theorem kx_197_233 : x_code k_P 197 233 = some (.aload_n 0, 1) := by decide +kernel
theorem kx_197_234 : x_code k_P 197 234 = some (.aload_n 0, 1) := by decide +kernel
theorem kx_197_235 : x_code k_P 197 235 = some (.bipush 60, 2) := by decide +kernel
theorem kx_197_237 : x_code k_P 197 237 = some (.invokevirtual 283, 3) := by decide +kernel
theorem kx_197_240 : x_code k_P 197 240 = some (.ifCond .eq 8, 3) := by decide +kernel
theorem kx_197_248 : x_code k_P 197 248 = some (.aload_n 0, 1) := by decide +kernel
theorem kx_197_249 : x_code k_P 197 249 = some (.bipush 62, 2) := by decide +kernel
theorem kx_197_251 : x_code k_P 197 251 = some (.invokevirtual 283, 3) := by decide +kernel
theorem kx_197_254 : x_code k_P 197 254 = some (.ifCond .eq 8, 3) := by decide +kernel
theorem kx_197_262 : x_code k_P 197 262 = some (.bipush 19, 2) := by decide +kernel
theorem kx_197_257 : x_code k_P 197 257 = some (.bipush 18, 2) := by decide +kernel
theorem kx_197_259 : x_code k_P 197 259 = some (.goto 5, 3) := by decide +kernel
theorem kx_197_243 : x_code k_P 197 243 = some (.bipush 17, 2) := by decide +kernel
theorem kx_197_245 : x_code k_P 197 245 = some (.goto 19, 3) := by decide +kernel
theorem kx_197_264 : x_code k_P 197 264 = some (.invokevirtual 364, 3) := by decide +kernel
theorem kx_197_267 : x_code k_P 197 267 = some (.aload_n 0, 1) := by decide +kernel
theorem kx_197_268 : x_code k_P 197 268 = some (.getfield 127, 3) := by decide +kernel
theorem kx_197_271 : x_code k_P 197 271 = some (.iload_n 1, 1) := by decide +kernel
theorem kx_197_272 : x_code k_P 197 272 = some (.iconst 1, 1) := by decide +kernel
theorem kx_197_273 : x_code k_P 197 273 = some (.iastore, 1) := by decide +kernel
theorem kx_197_274 : x_code k_P 197 274 = some (.aload_n 0, 1) := by decide +kernel
theorem kx_197_275 : x_code k_P 197 275 = some (.invokevirtual 286, 3) := by decide +kernel
theorem kx_197_278 : x_code k_P 197 278 = some (.aload_n 0, 1) := by decide +kernel
theorem kx_197_279 : x_code k_P 197 279 = some (.iconst 0, 1) := by decide +kernel
theorem kx_197_280 : x_code k_P 197 280 = some (.putfield 152, 3) := by decide +kernel
theorem kx_197_283 : x_code k_P 197 283 = some (.iconst 1, 1) := by decide +kernel
theorem kx_197_284 : x_code k_P 197 284 = some (.ireturn, 1) := by decide +kernel
theorem kx_197_210 : x_code k_P 197 210 = some (.aload_n 0, 1) := by decide +kernel
theorem kx_197_211 : x_code k_P 197 211 = some (.bipush 62, 2) := by decide +kernel
theorem kx_197_213 : x_code k_P 197 213 = some (.invokevirtual 283, 3) := by decide +kernel
theorem kx_197_216 : x_code k_P 197 216 = some (.ifCond .ne 12, 3) := by decide +kernel
theorem kx_197_219 : x_code k_P 197 219 = some (.aload_n 0, 1) := by decide +kernel
theorem kx_197_220 : x_code k_P 197 220 = some (.bipush 61, 2) := by decide +kernel
theorem kx_197_222 : x_code k_P 197 222 = some (.invokevirtual 283, 3) := by decide +kernel
theorem kx_197_225 : x_code k_P 197 225 = some (.ifCond .eq 60, 3) := by decide +kernel
theorem kx_197_318 : x_code k_P 197 318 = some (.aload_n 0, 1) := by decide +kernel
theorem kx_197_319 : x_code k_P 197 319 = some (.iconst 1, 1) := by decide +kernel
theorem kx_197_320 : x_code k_P 197 320 = some (.aload_n 0, 1) := by decide +kernel
theorem kx_197_321 : x_code k_P 197 321 = some (.getfield 23, 3) := by decide +kernel
theorem kx_197_324 : x_code k_P 197 324 = some (.invokevirtual 263, 3) := by decide +kernel
theorem kx_197_334 : x_code k_P 197 334 = some (.iconst 0, 1) := by decide +kernel
theorem kx_197_335 : x_code k_P 197 335 = some (.ireturn, 1) := by decide +kernel
theorem kx_197_413 : x_code k_P 197 413 = some (.aload_n 0, 1) := by decide +kernel
theorem kx_197_414 : x_code k_P 197 414 = some (.iconst 1, 1) := by decide +kernel
theorem kx_197_415 : x_code k_P 197 415 = some (.aload_n 0, 1) := by decide +kernel
theorem kx_197_416 : x_code k_P 197 416 = some (.getfield 23, 3) := by decide +kernel
theorem kx_197_419 : x_code k_P 197 419 = some (.invokevirtual 263, 3) := by decide +kernel
theorem kx_197_11 : x_code k_P 197 11 = some (.iconst 0, 1) := by decide +kernel
theorem kx_197_12 : x_code k_P 197 12 = some (.ireturn, 1) := by decide +kernel
def fS_197_m : List (Nat × Nat) := [(63, 10), (63, 13), (63, 3), (63, 35), (63, 4), (63, 42), (63, 43), (63, 45), (63, 46), (63, 5), (63, 6), (63, 7), (63, 8), (63, 9), (81, 99999), (82, 99999), (85, 99999), (86, 99999), (87, 99999), (90, 99999)]
def fS_197_j521 : List (Nat × Nat) := []
def fS_197_j348 : List (Nat × Nat) := []
def fS_197_j362 : List (Nat × Nat) := []
def fS_197_j94 : List (Nat × Nat) := []
def fS_197_j122 : List (Nat × Nat) := []
def fS_197_j240 : List (Nat × Nat) := []
set_option maxHeartbeats 4000000 in
theorem m_197 {xs : Nat → Int} {Ln d : Nat} {T : List cK} {M : cM} (hT : TT T) (hI : Rng M) (hX : LXp M) {c : Nat → Int} {a q : Int} (hP : PI M c a 1 7 q 0) (hB : B0 M) (p0 : q ≤ M 63 4) : cC k_P xs Ln (d + 2) 197 [rf 63] (T, M) (qW T M fS_197_m 0 (fun v M1 => 0 ≤ v ∧ v ≤ 1 ∧ (LXp M1 ∧ M 63 4 ≤ M1 63 4 ∧ M 63 9 ≤ M1 63 9 ∧ (GOd M M1 c a v)))) := by
  show cP k_P xs Ln (d + 2) 197 0 [(0, rf 63)] [] (T, M) _
  have hFm : Fr fS_197_m M M := Fr.refl
  have h639 := rg_63_9 hI
  have ⟨lx1, lx2⟩ := hX
  have hd := PI.deep hP
  have hs := PI.small hP (rg_63_43 hI).2 (by decide)
  have hs1 := hs.1
  have hs2 := hs.2.1
  have h4 := rg_63_4 hI
  have h43 := rg_63_43 hI
  have h5 := rg_63_5 hI
  have h45 := rg_63_45 hI
  refine s_aload_n kx_197_0 rfl ?_
  refine s_callV2 (k := 63) (s1 := 1) (s2 := 0) (as := []) (rest := []) kx_197_1 kp_197_280 (Or.inl rfl) rfl (tk_63 hT) ki_179 kcl_179 rfl rfl (by decide) (m_179 (d := d) hT hI) (kV (fun M2 hI2 fr2 v1p => ?_))
  have hFm2 := hFm.call fr2 rfl
  have tr3 := (fr2 63 3 rfl)
  have tr4 := (fr2 63 4 rfl)
  have tr5 := (fr2 63 5 rfl)
  have tr6 := (fr2 63 35 rfl)
  have tr7 := (fr2 63 42 rfl)
  have tr8 := (fr2 63 43 rfl)
  have tr9 := (fr2 63 45 rfl)
  have tr10 := rg_63_9 hI2
  refine s_aload_n kx_197_4 rfl ?_
  refine r_getI (k := 63) (f := 9) kx_197_5 kp_197_39 (tk_63 hT) kf_12_9 (fun _ => rfl) (rg_63_9 hI2) (fun v11 v11e v11a v11b => ?_)
  refine s_if_le (t := 13) kx_197_8 (by decide) (fun hc12 => ?_) (fun hc12 => ?_)
  · refine s_aload_n kx_197_13 rfl ?_
    refine r_getI (k := 63) (f := 42) kx_197_14 kp_197_140 (tk_63 hT) kf_12_42 (fun _ => rfl) (rg_63_42 hI2) (fun v13 v13e v13a v13b => ?_)
    have v13z : M 63 42 = v13 := ((fr2 63 42 rfl)).symm.trans v13e
    refine s_iconst (v := 1) kx_197_17 (by decide) ?_
    refine r_sub kx_197_18 ⟨by omega, by omega⟩ ?_
    refine s_istore_n kx_197_19 km_197_1 rfl ?_
    refine s_aload_n kx_197_20 rfl ?_
    refine r_getR (k := 63) (f := 37) (k2 := 85) kx_197_21 kp_197_124 (tk_63 hT) kf_12_37 (by decide) (rq_63_37 hI2) ?_
    refine s_iload_n kx_197_24 rfl ?_
    refine r_ald (k := 85) kx_197_25 (tk_85 hT) ⟨by omega, by omega⟩ (rg_85 hI2) (fun v14 v14e v14a v14b => ?_)
    refine s_istore_n kx_197_26 km_197_2 rfl ?_
    refine s_iload_n kx_197_27 rfl ?_
    refine s_callS2 (s1 := 1) (s2 := 0) (as := [(0, v14)]) (rest := []) kx_197_28 kp_197_358 rfl kcl_195 rfl rfl (by decide) (m_195 (d := d + 1) (kind := v14) hT hI2) (kF (fun v15 v15p => ?_))
    refine s_istore_n kx_197_31 km_197_3 rfl ?_
    refine s_aload_n kx_197_32 rfl ?_
    refine r_getR (k := 63) (f := 38) (k2 := 86) kx_197_33 kp_197_127 (tk_63 hT) kf_12_38 (by decide) (rq_63_38 hI2) ?_
    refine s_iload_n kx_197_36 rfl ?_
    refine r_ald (k := 86) kx_197_37 (tk_86 hT) ⟨by omega, by omega⟩ (rg_86 hI2) (fun v16 v16e v16a v16b => ?_)
    refine s_iconst (v := 2) kx_197_38 (by decide) ?_
    refine s_icmp_ge (t := 188) kx_197_39 (by decide) (fun hc17 => ?_) (fun hc17 => ?_)
    · refine s_iload_n kx_197_188 rfl ?_
      refine s_if_eq (t := 285) kx_197_189 (by decide) (fun hc18 => ?_) (fun hc18 => ?_)
      · replace v15p := v15p.resolve_left (by omega)
        refine s_iload_n kx_197_285 rfl ?_
        refine s_if_eq (t := 400) kx_197_286 (by decide) (fun hc19 => ?_) (fun hc19 => absurd hc19 (by omega))
        refine s_iload_n kx_197_400 rfl ?_
        refine s_if_eq (t := 422) kx_197_401 (by decide) (fun hc20 => ?_) (fun hc20 => absurd hc20 (by omega))
        refine s_iload_n kx_197_422 rfl ?_
        refine s_iconst (v := 2) kx_197_423 (by decide) ?_
        refine s_icmp_ge (t := 441) kx_197_424 (by decide) (fun hc21 => ?_) (fun hc21 => ?_)
        · refine s_iload_n kx_197_441 rfl ?_
          refine s_iconst (v := 3) kx_197_442 (by decide) ?_
          refine s_icmp_eq (t := 452) kx_197_443 (by decide) (fun hc22 => ?_) (fun hc22 => ?_)
          · refine s_aload_n kx_197_452 rfl ?_
            refine s_bipush (v := 44) kx_197_453 (by decide) ?_
            refine s_callV2 (k := 63) (s1 := 2) (s2 := 0) (as := [(0, 44)]) (rest := []) kx_197_455 kp_197_283 (Or.inl rfl) rfl (tk_63 hT) ki_181 kcl_181 rfl rfl (by decide) (m_181 (d := d + 1) (c := 44) hT hI2) (kF (fun v23 v23p => ?_))
            refine s_if_ne (t := 470) kx_197_458 (by decide) (fun hc24 => ?_) (fun hc24 => ?_)
            · replace v23p := v23p.resolve_right (by omega)
              refine s_aload_n kx_197_470 rfl ?_
              refine r_getK (k := 63) (f := 9) kx_197_471 kp_197_39 (tk_63 hT) kf_12_9 (fun _ => rfl) v11e ?_
              refine s_if_le (t := 479) kx_197_474 (by decide) (fun hc25 => ?_) (fun hc25 => absurd hc25 (by omega))
              refine s_aload_n kx_197_479 rfl ?_
              refine s_iconst (v := 1) kx_197_480 (by decide) ?_
              refine s_callV2 (k := 63) (s1 := 2) (s2 := 0) (as := [(0, 1)]) (rest := []) kx_197_481 kp_197_370 (Or.inl rfl) rfl (tk_63 hT) ki_191 kcl_191 rfl rfl (by decide) (m_191 (d := d) (least := 1) hT hI2 (PI.fr hP fr2 rfl) (by omega) (by omega) (by omega)) (kV (fun M27 hI27 fr27 v26p => ?_))
              have hFm27 := hFm2.call fr27 rfl
              have tr28 := (fr27 63 3 rfl)
              have tr29 := (fr27 63 4 rfl)
              have tr30 := (fr27 63 5 rfl)
              have tr31 := (fr27 63 9 rfl)
              have tr32 := (fr27 63 42 rfl)
              have tr33 := rg_63_9 hI27
              have hd34 := PI.deep v26p
              have hs35 := PI.small v26p (rg_63_43 hI27).2 (by decide)
              have hs35a := hs35.1
              have hs35b := hs35.2.1
              have hs35c := rg_63_45 hI27
              have hk8536 : M27 85 ((v13 - 1)).toNat = v14 := ((fr27 85 _ rfl).trans v14e)
              refine s_aload_n kx_197_484 rfl ?_
              refine r_getR (k := 63) (f := 37) (k2 := 85) kx_197_485 kp_197_124 (tk_63 hT) kf_12_37 (by decide) (rq_63_37 hI27) ?_
              refine s_iload_n kx_197_488 rfl ?_
              refine s_iload_n kx_197_489 rfl ?_
              refine s_iconst (v := 3) kx_197_490 (by decide) ?_
              refine s_icmp_ne (t := 498) kx_197_491 (by decide) (fun hc37 => absurd hc37 (by omega)) (fun hc37 => ?_)
              refine s_iconst (v := 4) kx_197_494 (by decide) ?_
              refine s_goto (t := 499) kx_197_495 (by decide) ?_
              refine r_ast (k := 85) kx_197_499 (tk_85 hT) ⟨by omega, by omega⟩ hI27 (ru_85 (by omega) (by omega)) (fun M38 hI38 u38 => ?_)
              have hFm38 := hFm27.up u38 rfl
              have tr39 := (u38.2 63 3 (by omega))
              have tr40 := (u38.2 63 4 (by omega))
              have tr41 := (u38.2 63 5 (by omega))
              have tr42 := (u38.2 63 9 (by omega))
              have tr43 := (u38.2 63 35 (by omega))
              have tr44 := (u38.2 63 42 (by omega))
              have tr45 := (u38.2 63 43 (by omega))
              have tr46 := (u38.2 63 45 (by omega))
              refine s_aload_n kx_197_500 rfl ?_
              refine r_getR (k := 63) (f := 38) (k2 := 86) kx_197_501 kp_197_127 (tk_63 hT) kf_12_38 (by decide) (rq_63_38 hI38) ?_
              refine s_iload_n kx_197_504 rfl ?_
              refine s_iconst (v := 0) kx_197_505 (by decide) ?_
              refine r_ast (k := 86) kx_197_506 (tk_86 hT) ⟨by omega, by omega⟩ hI38 (ru_86 (by omega) (by omega)) (fun M47 hI47 u47 => ?_)
              have hFm47 := hFm38.up u47 rfl
              have tr48 := (u47.2 63 3 (by omega))
              have tr49 := (u47.2 63 4 (by omega))
              have tr50 := (u47.2 63 5 (by omega))
              have tr51 := (u47.2 63 9 (by omega))
              have tr52 := (u47.2 63 35 (by omega))
              have tr53 := (u47.2 63 42 (by omega))
              have tr54 := (u47.2 63 43 (by omega))
              have tr55 := (u47.2 63 45 (by omega))
              refine s_aload_n kx_197_507 rfl ?_
              refine s_callV2 (k := 63) (s1 := 1) (s2 := 0) (as := []) (rest := []) kx_197_508 kp_197_286 (Or.inl rfl) rfl (tk_63 hT) ki_180 kcl_180 rfl rfl (by decide) (m_180 (d := d) hT hI47) (kV (fun M57 hI57 fr57 v56p => ?_))
              have hFm57 := hFm47.call fr57 rfl
              have tr58 := (fr57 63 9 rfl)
              have tr59 := (fr57 63 35 rfl)
              have tr60 := (fr57 63 42 rfl)
              have tr61 := (fr57 63 43 rfl)
              have tr62 := (fr57 63 45 rfl)
              have tr63 := rg_63_9 hI57
              refine s_aload_n kx_197_511 rfl ?_
              refine s_iconst (v := 0) kx_197_512 (by decide) ?_
              refine r_put (k := 63) (f := 46) kx_197_513 kp_197_152 (tk_63 hT) kf_12_46 rfl (by decide) (by decide) hI57 (ru_63_46 (by omega) (by omega)) (fun M64 hI64 u64 => ?_)
              have hFm64 := hFm57.up u64 rfl
              have tr65 := (u64.2 63 3 (by omega))
              have tr66 := (u64.2 63 4 (by omega))
              have tr67 := (u64.2 63 5 (by omega))
              have tr68 := (u64.2 63 9 (by omega))
              have tr69 := (u64.2 63 35 (by omega))
              have tr70 := (u64.2 63 42 (by omega))
              have tr71 := (u64.2 63 43 (by omega))
              have tr72 := (u64.2 63 45 (by omega))
              refine s_iconst (v := 1) kx_197_516 (by decide) ?_
              have hk73 : M64 63 9 = v11 := ((u64.2 63 9 (by omega)).trans ((fr57 63 9 rfl).trans ((u47.2 63 9 (by omega)).trans ((u38.2 63 9 (by omega)).trans ((fr27 63 9 rfl).trans v11e)))))
              exact s_iret kx_197_517 (Or.inr ⟨kq_197, by omega⟩) ⟨_, _, rfl, rfl, hI64, hFm64, ⟨by omega, by omega, (LXp.up (show LXp M57 from v56p.2) u64 (by decide)), (by omega), (by omega), (Or.inr (Or.inr ⟨rfl, by omega, Or.inl ⟨u64.1, PI.to7 (PI.fr (PI.fr (PI.phase (PI.comma v26p (by omega) (by omega) u38) (Or.inr (by omega)) (by omega) u47) fr57 rfl) (Up.fr u64) rfl) (by omega)⟩⟩))⟩⟩
            · replace v23p := v23p.resolve_left (by omega)
              refine s_aload_n kx_197_461 rfl ?_
              refine s_iconst (v := 1) kx_197_462 (by decide) ?_
              refine s_aload_n kx_197_463 rfl ?_
              refine r_getI (k := 63) (f := 4) kx_197_464 kp_197_23 (tk_63 hT) kf_12_4 (fun _ => rfl) (rg_63_4 hI2) (fun v74 v74e v74a v74b => ?_)
              have v74z : M 63 4 = v74 := ((fr2 63 4 rfl)).symm.trans v74e
              refine s_callV2 (k := 63) (s1 := 3) (s2 := 0) (as := [(0, v74), (0, 1)]) (rest := []) kx_197_467 kp_197_263 (Or.inl rfl) rfl (tk_63 hT) ki_176 kcl_176 rfl rfl (by decide) (m_176 (d := d + 1) (kind := 1) (place := v74) hT hI2 (by omega)) (kV (fun M76 hI76 fr76 v75p => ?_))
              have hFm76 := hFm2.call fr76 rfl
              have tr77 := (fr76 63 3 rfl)
              have tr78 := (fr76 63 4 rfl)
              have tr79 := (fr76 63 5 rfl)
              have tr80 := (fr76 63 35 rfl)
              have tr81 := (fr76 63 42 rfl)
              have tr82 := (fr76 63 43 rfl)
              have tr83 := (fr76 63 45 rfl)
              have tr84 := rg_63_9 hI76
              refine s_aload_n kx_197_470 rfl ?_
              refine r_getI (k := 63) (f := 9) kx_197_471 kp_197_39 (tk_63 hT) kf_12_9 (fun _ => rfl) (rg_63_9 hI76) (fun v85 v85e v85a v85b => ?_)
              refine s_if_le (t := 479) kx_197_474 (by decide) (fun hc86 => ?_) (fun hc86 => ?_)
              · refine s_aload_n kx_197_479 rfl ?_
                refine s_iconst (v := 1) kx_197_480 (by decide) ?_
                refine s_callV2 (k := 63) (s1 := 2) (s2 := 0) (as := [(0, 1)]) (rest := []) kx_197_481 kp_197_370 (Or.inl rfl) rfl (tk_63 hT) ki_191 kcl_191 rfl rfl (by decide) (m_191 (d := d) (least := 1) hT hI76 (PI.fr (PI.fr hP fr2 rfl) fr76 rfl) (by omega) (by omega) (by omega)) (kV (fun M88 hI88 fr88 v87p => ?_))
                have hFm88 := hFm76.call fr88 rfl
                have tr89 := (fr88 63 3 rfl)
                have tr90 := (fr88 63 4 rfl)
                have tr91 := (fr88 63 5 rfl)
                have tr92 := (fr88 63 9 rfl)
                have tr93 := (fr88 63 42 rfl)
                have tr94 := rg_63_9 hI88
                have hd95 := PI.deep v87p
                have hs96 := PI.small v87p (rg_63_43 hI88).2 (by decide)
                have hs96a := hs96.1
                have hs96b := hs96.2.1
                have hs96c := rg_63_45 hI88
                have hk8597 : M88 85 ((v13 - 1)).toNat = v14 := ((fr88 85 _ rfl).trans ((fr76 85 _ rfl).trans v14e))
                refine s_aload_n kx_197_484 rfl ?_
                refine r_getR (k := 63) (f := 37) (k2 := 85) kx_197_485 kp_197_124 (tk_63 hT) kf_12_37 (by decide) (rq_63_37 hI88) ?_
                refine s_iload_n kx_197_488 rfl ?_
                refine s_iload_n kx_197_489 rfl ?_
                refine s_iconst (v := 3) kx_197_490 (by decide) ?_
                refine s_icmp_ne (t := 498) kx_197_491 (by decide) (fun hc98 => absurd hc98 (by omega)) (fun hc98 => ?_)
                refine s_iconst (v := 4) kx_197_494 (by decide) ?_
                refine s_goto (t := 499) kx_197_495 (by decide) ?_
                refine r_ast (k := 85) kx_197_499 (tk_85 hT) ⟨by omega, by omega⟩ hI88 (ru_85 (by omega) (by omega)) (fun M99 hI99 u99 => ?_)
                have hFm99 := hFm88.up u99 rfl
                have tr100 := (u99.2 63 3 (by omega))
                have tr101 := (u99.2 63 4 (by omega))
                have tr102 := (u99.2 63 5 (by omega))
                have tr103 := (u99.2 63 9 (by omega))
                have tr104 := (u99.2 63 35 (by omega))
                have tr105 := (u99.2 63 42 (by omega))
                have tr106 := (u99.2 63 43 (by omega))
                have tr107 := (u99.2 63 45 (by omega))
                refine s_aload_n kx_197_500 rfl ?_
                refine r_getR (k := 63) (f := 38) (k2 := 86) kx_197_501 kp_197_127 (tk_63 hT) kf_12_38 (by decide) (rq_63_38 hI99) ?_
                refine s_iload_n kx_197_504 rfl ?_
                refine s_iconst (v := 0) kx_197_505 (by decide) ?_
                refine r_ast (k := 86) kx_197_506 (tk_86 hT) ⟨by omega, by omega⟩ hI99 (ru_86 (by omega) (by omega)) (fun M108 hI108 u108 => ?_)
                have hFm108 := hFm99.up u108 rfl
                have tr109 := (u108.2 63 3 (by omega))
                have tr110 := (u108.2 63 4 (by omega))
                have tr111 := (u108.2 63 5 (by omega))
                have tr112 := (u108.2 63 9 (by omega))
                have tr113 := (u108.2 63 35 (by omega))
                have tr114 := (u108.2 63 42 (by omega))
                have tr115 := (u108.2 63 43 (by omega))
                have tr116 := (u108.2 63 45 (by omega))
                refine s_aload_n kx_197_507 rfl ?_
                refine s_callV2 (k := 63) (s1 := 1) (s2 := 0) (as := []) (rest := []) kx_197_508 kp_197_286 (Or.inl rfl) rfl (tk_63 hT) ki_180 kcl_180 rfl rfl (by decide) (m_180 (d := d) hT hI108) (kV (fun M118 hI118 fr118 v117p => ?_))
                have hFm118 := hFm108.call fr118 rfl
                have tr119 := (fr118 63 9 rfl)
                have tr120 := (fr118 63 35 rfl)
                have tr121 := (fr118 63 42 rfl)
                have tr122 := (fr118 63 43 rfl)
                have tr123 := (fr118 63 45 rfl)
                have tr124 := rg_63_9 hI118
                refine s_aload_n kx_197_511 rfl ?_
                refine s_iconst (v := 0) kx_197_512 (by decide) ?_
                refine r_put (k := 63) (f := 46) kx_197_513 kp_197_152 (tk_63 hT) kf_12_46 rfl (by decide) (by decide) hI118 (ru_63_46 (by omega) (by omega)) (fun M125 hI125 u125 => ?_)
                have hFm125 := hFm118.up u125 rfl
                have tr126 := (u125.2 63 3 (by omega))
                have tr127 := (u125.2 63 4 (by omega))
                have tr128 := (u125.2 63 5 (by omega))
                have tr129 := (u125.2 63 9 (by omega))
                have tr130 := (u125.2 63 35 (by omega))
                have tr131 := (u125.2 63 42 (by omega))
                have tr132 := (u125.2 63 43 (by omega))
                have tr133 := (u125.2 63 45 (by omega))
                refine s_iconst (v := 1) kx_197_516 (by decide) ?_
                have hk134 : M125 63 9 = v85 := ((u125.2 63 9 (by omega)).trans ((fr118 63 9 rfl).trans ((u108.2 63 9 (by omega)).trans ((u99.2 63 9 (by omega)).trans ((fr88 63 9 rfl).trans v85e)))))
                exact s_iret kx_197_517 (Or.inr ⟨kq_197, by omega⟩) ⟨_, _, rfl, rfl, hI125, hFm125, ⟨by omega, by omega, (LXp.up (show LXp M118 from v117p.2) u125 (by decide)), (by omega), (by omega), (Or.inr (Or.inr ⟨rfl, by omega, Or.inl ⟨u125.1, PI.to7 (PI.fr (PI.fr (PI.phase (PI.comma v87p (by omega) (by omega) u99) (Or.inr (by omega)) (by omega) u108) fr118 rfl) (Up.fr u125) rfl) (by omega)⟩⟩))⟩⟩
              · refine s_iconst (v := 0) kx_197_477 (by decide) ?_
                have hk135 : M76 63 4 = v74 := ((fr76 63 4 rfl).trans v74e)
                have hk136 : M76 63 9 = v85 := v85e
                exact s_iret kx_197_478 (Or.inr ⟨kq_197, by omega⟩) ⟨_, _, rfl, rfl, hI76, hFm76, ⟨by omega, by omega, (LXp.fr (LXp.fr hX fr2 rfl) fr76 rfl), (by omega), (by omega), (Or.inl (by omega))⟩⟩
          · refine s_iload_n kx_197_446 rfl ?_
            refine s_bipush (v := 6) kx_197_447 (by decide) ?_
            refine s_icmp_ne (t := 518) kx_197_449 (by decide) (fun hc137 => ?_) (fun hc137 => ?_)
            · refine s_aload_n kx_197_518 rfl ?_
              refine s_iload_n kx_197_519 rfl ?_
              refine s_iconst (v := 5) kx_197_520 (by decide) ?_
              have jn142 : ∀ (y141 : Int), (41 ≤ y141) → (y141 ≤ 93) → cP k_P xs Ln (d + 2) 197 531 [(0, rf 63), (1, (0, (v13 - 1))), (2, (0, v14))] [(0, y141), rf 63] (T, M2) (qW T M fS_197_m 0 (fun v M1 => 0 ≤ v ∧ v ≤ 1 ∧ (LXp M1 ∧ M 63 4 ≤ M1 63 4 ∧ M 63 9 ≤ M1 63 9 ∧ (GOd M M1 c a v)))) := by
                intro y141 a143 a144
                refine s_callV2 (k := 63) (s1 := 2) (s2 := 0) (as := [(0, y141)]) (rest := []) kx_197_531 kp_197_283 (Or.inl rfl) rfl (tk_63 hT) ki_181 kcl_181 rfl rfl (by decide) (m_181 (d := d + 1) (c := y141) hT hI2) (kF (fun v145 v145p => ?_))
                refine s_if_ne (t := 546) kx_197_534 (by decide) (fun hc146 => ?_) (fun hc146 => ?_)
                · replace v145p := v145p.resolve_right (by omega)
                  refine s_aload_n kx_197_546 rfl ?_
                  refine r_getK (k := 63) (f := 9) kx_197_547 kp_197_39 (tk_63 hT) kf_12_9 (fun _ => rfl) v11e ?_
                  refine s_if_le (t := 555) kx_197_550 (by decide) (fun hc147 => ?_) (fun hc147 => absurd hc147 (by omega))
                  refine s_aload_n kx_197_555 rfl ?_
                  refine s_iconst (v := 1) kx_197_556 (by decide) ?_
                  refine s_callV2 (k := 63) (s1 := 2) (s2 := 0) (as := [(0, 1)]) (rest := []) kx_197_557 kp_197_370 (Or.inl rfl) rfl (tk_63 hT) ki_191 kcl_191 rfl rfl (by decide) (m_191 (d := d) (least := 1) hT hI2 (PI.fr hP fr2 rfl) (by omega) (by omega) (by omega)) (kV (fun M149 hI149 fr149 v148p => ?_))
                  have hFm149 := hFm2.call fr149 rfl
                  have tr150 := (fr149 63 3 rfl)
                  have tr151 := (fr149 63 4 rfl)
                  have tr152 := (fr149 63 5 rfl)
                  have tr153 := (fr149 63 9 rfl)
                  have tr154 := (fr149 63 42 rfl)
                  have tr155 := rg_63_9 hI149
                  have hd156 := PI.deep v148p
                  have hs157 := PI.small v148p (rg_63_43 hI149).2 (by decide)
                  have hs157a := hs157.1
                  have hs157b := hs157.2.1
                  have hs157c := rg_63_45 hI149
                  refine s_aload_n kx_197_560 rfl ?_
                  refine s_dup kx_197_561 rfl ?_
                  refine r_getK (k := 63) (f := 42) kx_197_562 kp_197_140 (tk_63 hT) kf_12_42 (fun _ => rfl) ((fr149 63 42 rfl).trans v13e) ?_
                  refine s_iconst (v := 1) kx_197_565 (by decide) ?_
                  refine r_sub kx_197_566 ⟨by omega, by omega⟩ ?_
                  refine r_put (k := 63) (f := 42) kx_197_567 kp_197_140 (tk_63 hT) kf_12_42 rfl (by decide) (by decide) hI149 (ru_63_42 (by omega) (by omega)) (fun M158 hI158 u158 => ?_)
                  have hFm158 := hFm149.up u158 rfl
                  have tr159 := (u158.2 63 3 (by omega))
                  have tr160 := (u158.2 63 4 (by omega))
                  have tr161 := (u158.2 63 5 (by omega))
                  have tr162 := (u158.2 63 9 (by omega))
                  have tr163 := (u158.2 63 35 (by omega))
                  have tr164 := u158.1
                  have tr165 := (u158.2 63 43 (by omega))
                  have tr166 := (u158.2 63 45 (by omega))
                  have hcl167 := PI.close v148p (by decide) (f := (v13 - 1)) (by omega) ((fr149 85 _ rfl).trans v14e) (by omega) u158 (by omega)
                  have hcl167d := hcl167.2.2.1
                  have hcl167q := PI.deep hcl167.1
                  refine s_aload_n kx_197_570 rfl ?_
                  refine s_dup kx_197_571 rfl ?_
                  refine r_getI (k := 63) (f := 43) kx_197_572 kp_197_143 (tk_63 hT) kf_12_43 (fun _ => rfl) (rg_63_43 hI158) (fun v168 v168e v168a v168b => ?_)
                  refine s_iconst (v := 1) kx_197_575 (by decide) ?_
                  refine r_sub kx_197_576 ⟨by omega, by omega⟩ ?_
                  have hcl167e := PI.e_le hcl167.1
                  refine r_put (k := 63) (f := 43) kx_197_577 kp_197_143 (tk_63 hT) kf_12_43 rfl (by decide) (by decide) hI158 (ru_63_43 (by omega) (by omega)) (fun M169 hI169 u169 => ?_)
                  have hFm169 := hFm158.up u169 rfl
                  have tr170 := (u169.2 63 3 (by omega))
                  have tr171 := (u169.2 63 4 (by omega))
                  have tr172 := (u169.2 63 5 (by omega))
                  have tr173 := (u169.2 63 9 (by omega))
                  have tr174 := (u169.2 63 35 (by omega))
                  have tr175 := (u169.2 63 42 (by omega))
                  have tr176 := u169.1
                  have tr177 := (u169.2 63 45 (by omega))
                  have hP178 := (PI.opn (e' := 0) hcl167.1 u169 (by omega))
                  refine s_iload_n kx_197_580 rfl ?_
                  refine s_iconst (v := 4) kx_197_581 (by decide) ?_
                  refine s_icmp_ne (t := 596) kx_197_582 (by decide) (fun hc179 => ?_) (fun hc179 => ?_)
                  · have hP180 := PI.comp0 hP178 (by omega)
                    refine s_iload_n kx_197_596 rfl ?_
                    refine s_iconst (v := 5) kx_197_597 (by decide) ?_
                    refine s_icmp_ne (t := 613) kx_197_598 (by decide) (fun hc181 => ?_) (fun hc181 => ?_)
                    · refine s_aload_n kx_197_613 rfl ?_
                      refine s_callV2 (k := 63) (s1 := 1) (s2 := 0) (as := []) (rest := []) kx_197_614 kp_197_286 (Or.inl rfl) rfl (tk_63 hT) ki_180 kcl_180 rfl rfl (by decide) (m_180 (d := d) hT hI169) (kV (fun M183 hI183 fr183 v182p => ?_))
                      have hFm183 := hFm169.call fr183 rfl
                      have tr184 := (fr183 63 9 rfl)
                      have tr185 := (fr183 63 35 rfl)
                      have tr186 := (fr183 63 42 rfl)
                      have tr187 := (fr183 63 43 rfl)
                      have tr188 := (fr183 63 45 rfl)
                      have tr189 := rg_63_9 hI183
                      refine s_iconst (v := 1) kx_197_617 (by decide) ?_
                      have hk190 : M183 63 9 = v11 := ((fr183 63 9 rfl).trans ((u169.2 63 9 (by omega)).trans ((u158.2 63 9 (by omega)).trans ((fr149 63 9 rfl).trans v11e))))
                      exact s_iret kx_197_618 (Or.inr ⟨kq_197, by omega⟩) ⟨_, _, rfl, rfl, hI183, hFm183, ⟨by omega, by omega, (show LXp M183 from v182p.2), (by omega), (by omega), (Or.inr (Or.inr ⟨rfl, by omega, Or.inr ⟨((fr183 63 46 rfl).trans ((u169.2 63 46 (by omega)).trans ((u158.2 63 46 (by omega)).trans ((fr149 63 46 rfl).trans (fr2 63 46 rfl))))), (B0.fr (B0.up (show B0 M158 from hcl167.2.1) u169 (by decide)) fr183 rfl (fun _ => rfl)), PI.to7 (PI.fr hP180 fr183 rfl) (by omega)⟩⟩))⟩⟩
                    · refine s_aload_n kx_197_601 rfl ?_
                      refine r_getR (k := 63) (f := 38) (k2 := 86) kx_197_602 kp_197_127 (tk_63 hT) kf_12_38 (by decide) (rq_63_38 hI169) ?_
                      refine s_aload_n kx_197_605 rfl ?_
                      refine r_getK (k := 63) (f := 42) kx_197_606 kp_197_140 (tk_63 hT) kf_12_42 (fun _ => rfl) ((u169.2 63 42 (by omega)).trans u158.1) ?_
                      refine s_iconst (v := 1) kx_197_609 (by decide) ?_
                      refine r_sub kx_197_610 ⟨by omega, by omega⟩ ?_
                      refine s_iconst (v := 2) kx_197_611 (by decide) ?_
                      refine r_ast (k := 86) kx_197_612 (tk_86 hT) ⟨by omega, by omega⟩ hI169 (ru_86 (by omega) (by omega)) (fun M191 hI191 u191 => ?_)
                      have hFm191 := hFm169.up u191 rfl
                      have tr192 := (u191.2 63 3 (by omega))
                      have tr193 := (u191.2 63 4 (by omega))
                      have tr194 := (u191.2 63 5 (by omega))
                      have tr195 := (u191.2 63 9 (by omega))
                      have tr196 := (u191.2 63 35 (by omega))
                      have tr197 := (u191.2 63 42 (by omega))
                      have tr198 := (u191.2 63 43 (by omega))
                      have tr199 := (u191.2 63 45 (by omega))
                      refine s_aload_n kx_197_613 rfl ?_
                      refine s_callV2 (k := 63) (s1 := 1) (s2 := 0) (as := []) (rest := []) kx_197_614 kp_197_286 (Or.inl rfl) rfl (tk_63 hT) ki_180 kcl_180 rfl rfl (by decide) (m_180 (d := d) hT hI191) (kV (fun M201 hI201 fr201 v200p => ?_))
                      have hFm201 := hFm191.call fr201 rfl
                      have tr202 := (fr201 63 9 rfl)
                      have tr203 := (fr201 63 35 rfl)
                      have tr204 := (fr201 63 42 rfl)
                      have tr205 := (fr201 63 43 rfl)
                      have tr206 := (fr201 63 45 rfl)
                      have tr207 := rg_63_9 hI201
                      refine s_iconst (v := 1) kx_197_617 (by decide) ?_
                      have hk208 : M201 63 9 = v11 := ((fr201 63 9 rfl).trans ((u191.2 63 9 (by omega)).trans ((u169.2 63 9 (by omega)).trans ((u158.2 63 9 (by omega)).trans ((fr149 63 9 rfl).trans v11e)))))
                      exact s_iret kx_197_618 (Or.inr ⟨kq_197, by omega⟩) ⟨_, _, rfl, rfl, hI201, hFm201, ⟨by omega, by omega, (show LXp M201 from v200p.2), (by omega), (by omega), (Or.inr (Or.inr ⟨rfl, by omega, Or.inr ⟨((fr201 63 46 rfl).trans ((u191.2 63 46 (by omega)).trans ((u169.2 63 46 (by omega)).trans ((u158.2 63 46 (by omega)).trans ((fr149 63 46 rfl).trans (fr2 63 46 rfl)))))), (B0.fr (B0.up (B0.up (show B0 M158 from hcl167.2.1) u169 (by decide)) u191 ⟨by decide, Or.inl (by decide)⟩) fr201 rfl (fun _ => rfl)), PI.to7 (PI.fr (PI.phase hP180 (Or.inl (by decide)) (by omega) u191) fr201 rfl) (by omega)⟩⟩))⟩⟩
                  · refine s_aload_n kx_197_585 rfl ?_
                    refine s_aload_n kx_197_586 rfl ?_
                    refine r_getR (k := 63) (f := 40) (k2 := 88) kx_197_587 kp_197_134 (tk_63 hT) kf_12_40 (by decide) (rq_63_40 hI169) ?_
                    refine s_iload_n kx_197_590 rfl ?_
                    refine r_ald (k := 88) kx_197_591 (tk_88 hT) ⟨by omega, by omega⟩ (rg_88 hI169) (fun v209 v209e v209a v209b => ?_)
                    have hpr210 : v209 = M149 88 ((v13 - 1)).toNat := (v209e).symm.trans ((u169.2 88 _ (by omega)).trans (u158.2 88 _ (by omega)))
                    refine s_iconst (v := 0) kx_197_592 (by decide) ?_
                    refine s_callV2 (k := 63) (s1 := 3) (s2 := 0) (as := [(0, 0), (0, v209)]) (rest := []) kx_197_593 kp_197_352 (Or.inl rfl) rfl (tk_63 hT) ki_189 kcl_189 rfl rfl (by decide) (m_189 (d := d + 1) (sort := v209) (v_ := 0) hT hI169 (by omega) (by omega)) (kV (fun M212 hI212 fr212 v211p => ?_))
                    have hFm212 := hFm169.call fr212 rfl
                    have tr213 := (fr212 63 3 rfl)
                    have tr214 := (fr212 63 4 rfl)
                    have tr215 := (fr212 63 5 rfl)
                    have tr216 := (fr212 63 9 rfl)
                    have tr217 := (fr212 63 42 rfl)
                    have tr218 := (fr212 63 43 rfl)
                    have tr219 := (fr212 63 45 rfl)
                    have tr220 := rg_63_9 hI212
                    have hP221 := PI.code4 hP178 (by omega) (hcl167.2.2.2 (by omega)) fr212 v211p.1 (v211p.2.1.trans hpr210) v211p.2.2
                    refine s_iload_n kx_197_596 rfl ?_
                    refine s_iconst (v := 5) kx_197_597 (by decide) ?_
                    refine s_icmp_ne (t := 613) kx_197_598 (by decide) (fun hc222 => ?_) (fun hc222 => absurd hc222 (by omega))
                    refine s_aload_n kx_197_613 rfl ?_
                    refine s_callV2 (k := 63) (s1 := 1) (s2 := 0) (as := []) (rest := []) kx_197_614 kp_197_286 (Or.inl rfl) rfl (tk_63 hT) ki_180 kcl_180 rfl rfl (by decide) (m_180 (d := d) hT hI212) (kV (fun M224 hI224 fr224 v223p => ?_))
                    have hFm224 := hFm212.call fr224 rfl
                    have tr225 := (fr224 63 9 rfl)
                    have tr226 := (fr224 63 35 rfl)
                    have tr227 := (fr224 63 42 rfl)
                    have tr228 := (fr224 63 43 rfl)
                    have tr229 := (fr224 63 45 rfl)
                    have tr230 := rg_63_9 hI224
                    refine s_iconst (v := 1) kx_197_617 (by decide) ?_
                    have hk231 : M224 63 9 = v11 := ((fr224 63 9 rfl).trans ((fr212 63 9 rfl).trans ((u169.2 63 9 (by omega)).trans ((u158.2 63 9 (by omega)).trans ((fr149 63 9 rfl).trans v11e)))))
                    exact s_iret kx_197_618 (Or.inr ⟨kq_197, by omega⟩) ⟨_, _, rfl, rfl, hI224, hFm224, ⟨by omega, by omega, (show LXp M224 from v223p.2), (by omega), (by omega), (Or.inr (Or.inr ⟨rfl, by omega, Or.inr ⟨((fr224 63 46 rfl).trans ((fr212 63 46 rfl).trans ((u169.2 63 46 (by omega)).trans ((u158.2 63 46 (by omega)).trans ((fr149 63 46 rfl).trans (fr2 63 46 rfl)))))), (B0.fr (B0.fr (B0.up (show B0 M158 from hcl167.2.1) u169 (by decide)) fr212 rfl (fun _ => rfl)) fr224 rfl (fun _ => rfl)), PI.to7 (PI.fr hP221 fr224 rfl) (by omega)⟩⟩))⟩⟩
                · replace v145p := v145p.resolve_left (by omega)
                  refine s_aload_n kx_197_537 rfl ?_
                  refine s_iconst (v := 1) kx_197_538 (by decide) ?_
                  refine s_aload_n kx_197_539 rfl ?_
                  refine r_getI (k := 63) (f := 4) kx_197_540 kp_197_23 (tk_63 hT) kf_12_4 (fun _ => rfl) (rg_63_4 hI2) (fun v232 v232e v232a v232b => ?_)
                  have v232z : M 63 4 = v232 := ((fr2 63 4 rfl)).symm.trans v232e
                  refine s_callV2 (k := 63) (s1 := 3) (s2 := 0) (as := [(0, v232), (0, 1)]) (rest := []) kx_197_543 kp_197_263 (Or.inl rfl) rfl (tk_63 hT) ki_176 kcl_176 rfl rfl (by decide) (m_176 (d := d + 1) (kind := 1) (place := v232) hT hI2 (by omega)) (kV (fun M234 hI234 fr234 v233p => ?_))
                  have hFm234 := hFm2.call fr234 rfl
                  have tr235 := (fr234 63 3 rfl)
                  have tr236 := (fr234 63 4 rfl)
                  have tr237 := (fr234 63 5 rfl)
                  have tr238 := (fr234 63 35 rfl)
                  have tr239 := (fr234 63 42 rfl)
                  have tr240 := (fr234 63 43 rfl)
                  have tr241 := (fr234 63 45 rfl)
                  have tr242 := rg_63_9 hI234
                  refine s_aload_n kx_197_546 rfl ?_
                  refine r_getI (k := 63) (f := 9) kx_197_547 kp_197_39 (tk_63 hT) kf_12_9 (fun _ => rfl) (rg_63_9 hI234) (fun v243 v243e v243a v243b => ?_)
                  refine s_if_le (t := 555) kx_197_550 (by decide) (fun hc244 => ?_) (fun hc244 => ?_)
                  · refine s_aload_n kx_197_555 rfl ?_
                    refine s_iconst (v := 1) kx_197_556 (by decide) ?_
                    refine s_callV2 (k := 63) (s1 := 2) (s2 := 0) (as := [(0, 1)]) (rest := []) kx_197_557 kp_197_370 (Or.inl rfl) rfl (tk_63 hT) ki_191 kcl_191 rfl rfl (by decide) (m_191 (d := d) (least := 1) hT hI234 (PI.fr (PI.fr hP fr2 rfl) fr234 rfl) (by omega) (by omega) (by omega)) (kV (fun M246 hI246 fr246 v245p => ?_))
                    have hFm246 := hFm234.call fr246 rfl
                    have tr247 := (fr246 63 3 rfl)
                    have tr248 := (fr246 63 4 rfl)
                    have tr249 := (fr246 63 5 rfl)
                    have tr250 := (fr246 63 9 rfl)
                    have tr251 := (fr246 63 42 rfl)
                    have tr252 := rg_63_9 hI246
                    have hd253 := PI.deep v245p
                    have hs254 := PI.small v245p (rg_63_43 hI246).2 (by decide)
                    have hs254a := hs254.1
                    have hs254b := hs254.2.1
                    have hs254c := rg_63_45 hI246
                    refine s_aload_n kx_197_560 rfl ?_
                    refine s_dup kx_197_561 rfl ?_
                    refine r_getK (k := 63) (f := 42) kx_197_562 kp_197_140 (tk_63 hT) kf_12_42 (fun _ => rfl) ((fr246 63 42 rfl).trans ((fr234 63 42 rfl).trans v13e)) ?_
                    refine s_iconst (v := 1) kx_197_565 (by decide) ?_
                    refine r_sub kx_197_566 ⟨by omega, by omega⟩ ?_
                    refine r_put (k := 63) (f := 42) kx_197_567 kp_197_140 (tk_63 hT) kf_12_42 rfl (by decide) (by decide) hI246 (ru_63_42 (by omega) (by omega)) (fun M255 hI255 u255 => ?_)
                    have hFm255 := hFm246.up u255 rfl
                    have tr256 := (u255.2 63 3 (by omega))
                    have tr257 := (u255.2 63 4 (by omega))
                    have tr258 := (u255.2 63 5 (by omega))
                    have tr259 := (u255.2 63 9 (by omega))
                    have tr260 := (u255.2 63 35 (by omega))
                    have tr261 := u255.1
                    have tr262 := (u255.2 63 43 (by omega))
                    have tr263 := (u255.2 63 45 (by omega))
                    have hcl264 := PI.close v245p (by decide) (f := (v13 - 1)) (by omega) ((fr246 85 _ rfl).trans ((fr234 85 _ rfl).trans v14e)) (by omega) u255 (by omega)
                    have hcl264d := hcl264.2.2.1
                    have hcl264q := PI.deep hcl264.1
                    refine s_aload_n kx_197_570 rfl ?_
                    refine s_dup kx_197_571 rfl ?_
                    refine r_getI (k := 63) (f := 43) kx_197_572 kp_197_143 (tk_63 hT) kf_12_43 (fun _ => rfl) (rg_63_43 hI255) (fun v265 v265e v265a v265b => ?_)
                    refine s_iconst (v := 1) kx_197_575 (by decide) ?_
                    refine r_sub kx_197_576 ⟨by omega, by omega⟩ ?_
                    have hcl264e := PI.e_le hcl264.1
                    refine r_put (k := 63) (f := 43) kx_197_577 kp_197_143 (tk_63 hT) kf_12_43 rfl (by decide) (by decide) hI255 (ru_63_43 (by omega) (by omega)) (fun M266 hI266 u266 => ?_)
                    have hFm266 := hFm255.up u266 rfl
                    have tr267 := (u266.2 63 3 (by omega))
                    have tr268 := (u266.2 63 4 (by omega))
                    have tr269 := (u266.2 63 5 (by omega))
                    have tr270 := (u266.2 63 9 (by omega))
                    have tr271 := (u266.2 63 35 (by omega))
                    have tr272 := (u266.2 63 42 (by omega))
                    have tr273 := u266.1
                    have tr274 := (u266.2 63 45 (by omega))
                    have hP275 := (PI.opn (e' := 0) hcl264.1 u266 (by omega))
                    refine s_iload_n kx_197_580 rfl ?_
                    refine s_iconst (v := 4) kx_197_581 (by decide) ?_
                    refine s_icmp_ne (t := 596) kx_197_582 (by decide) (fun hc276 => ?_) (fun hc276 => ?_)
                    · have hP277 := PI.comp0 hP275 (by omega)
                      refine s_iload_n kx_197_596 rfl ?_
                      refine s_iconst (v := 5) kx_197_597 (by decide) ?_
                      refine s_icmp_ne (t := 613) kx_197_598 (by decide) (fun hc278 => ?_) (fun hc278 => ?_)
                      · refine s_aload_n kx_197_613 rfl ?_
                        refine s_callV2 (k := 63) (s1 := 1) (s2 := 0) (as := []) (rest := []) kx_197_614 kp_197_286 (Or.inl rfl) rfl (tk_63 hT) ki_180 kcl_180 rfl rfl (by decide) (m_180 (d := d) hT hI266) (kV (fun M280 hI280 fr280 v279p => ?_))
                        have hFm280 := hFm266.call fr280 rfl
                        have tr281 := (fr280 63 9 rfl)
                        have tr282 := (fr280 63 35 rfl)
                        have tr283 := (fr280 63 42 rfl)
                        have tr284 := (fr280 63 43 rfl)
                        have tr285 := (fr280 63 45 rfl)
                        have tr286 := rg_63_9 hI280
                        refine s_iconst (v := 1) kx_197_617 (by decide) ?_
                        have hk287 : M280 63 9 = v243 := ((fr280 63 9 rfl).trans ((u266.2 63 9 (by omega)).trans ((u255.2 63 9 (by omega)).trans ((fr246 63 9 rfl).trans v243e))))
                        exact s_iret kx_197_618 (Or.inr ⟨kq_197, by omega⟩) ⟨_, _, rfl, rfl, hI280, hFm280, ⟨by omega, by omega, (show LXp M280 from v279p.2), (by omega), (by omega), (Or.inr (Or.inr ⟨rfl, by omega, Or.inr ⟨((fr280 63 46 rfl).trans ((u266.2 63 46 (by omega)).trans ((u255.2 63 46 (by omega)).trans ((fr246 63 46 rfl).trans ((fr234 63 46 rfl).trans (fr2 63 46 rfl)))))), (B0.fr (B0.up (show B0 M255 from hcl264.2.1) u266 (by decide)) fr280 rfl (fun _ => rfl)), PI.to7 (PI.fr hP277 fr280 rfl) (by omega)⟩⟩))⟩⟩
                      · refine s_aload_n kx_197_601 rfl ?_
                        refine r_getR (k := 63) (f := 38) (k2 := 86) kx_197_602 kp_197_127 (tk_63 hT) kf_12_38 (by decide) (rq_63_38 hI266) ?_
                        refine s_aload_n kx_197_605 rfl ?_
                        refine r_getK (k := 63) (f := 42) kx_197_606 kp_197_140 (tk_63 hT) kf_12_42 (fun _ => rfl) ((u266.2 63 42 (by omega)).trans u255.1) ?_
                        refine s_iconst (v := 1) kx_197_609 (by decide) ?_
                        refine r_sub kx_197_610 ⟨by omega, by omega⟩ ?_
                        refine s_iconst (v := 2) kx_197_611 (by decide) ?_
                        refine r_ast (k := 86) kx_197_612 (tk_86 hT) ⟨by omega, by omega⟩ hI266 (ru_86 (by omega) (by omega)) (fun M288 hI288 u288 => ?_)
                        have hFm288 := hFm266.up u288 rfl
                        have tr289 := (u288.2 63 3 (by omega))
                        have tr290 := (u288.2 63 4 (by omega))
                        have tr291 := (u288.2 63 5 (by omega))
                        have tr292 := (u288.2 63 9 (by omega))
                        have tr293 := (u288.2 63 35 (by omega))
                        have tr294 := (u288.2 63 42 (by omega))
                        have tr295 := (u288.2 63 43 (by omega))
                        have tr296 := (u288.2 63 45 (by omega))
                        refine s_aload_n kx_197_613 rfl ?_
                        refine s_callV2 (k := 63) (s1 := 1) (s2 := 0) (as := []) (rest := []) kx_197_614 kp_197_286 (Or.inl rfl) rfl (tk_63 hT) ki_180 kcl_180 rfl rfl (by decide) (m_180 (d := d) hT hI288) (kV (fun M298 hI298 fr298 v297p => ?_))
                        have hFm298 := hFm288.call fr298 rfl
                        have tr299 := (fr298 63 9 rfl)
                        have tr300 := (fr298 63 35 rfl)
                        have tr301 := (fr298 63 42 rfl)
                        have tr302 := (fr298 63 43 rfl)
                        have tr303 := (fr298 63 45 rfl)
                        have tr304 := rg_63_9 hI298
                        refine s_iconst (v := 1) kx_197_617 (by decide) ?_
                        have hk305 : M298 63 9 = v243 := ((fr298 63 9 rfl).trans ((u288.2 63 9 (by omega)).trans ((u266.2 63 9 (by omega)).trans ((u255.2 63 9 (by omega)).trans ((fr246 63 9 rfl).trans v243e)))))
                        exact s_iret kx_197_618 (Or.inr ⟨kq_197, by omega⟩) ⟨_, _, rfl, rfl, hI298, hFm298, ⟨by omega, by omega, (show LXp M298 from v297p.2), (by omega), (by omega), (Or.inr (Or.inr ⟨rfl, by omega, Or.inr ⟨((fr298 63 46 rfl).trans ((u288.2 63 46 (by omega)).trans ((u266.2 63 46 (by omega)).trans ((u255.2 63 46 (by omega)).trans ((fr246 63 46 rfl).trans ((fr234 63 46 rfl).trans (fr2 63 46 rfl))))))), (B0.fr (B0.up (B0.up (show B0 M255 from hcl264.2.1) u266 (by decide)) u288 ⟨by decide, Or.inl (by decide)⟩) fr298 rfl (fun _ => rfl)), PI.to7 (PI.fr (PI.phase hP277 (Or.inl (by decide)) (by omega) u288) fr298 rfl) (by omega)⟩⟩))⟩⟩
                    · refine s_aload_n kx_197_585 rfl ?_
                      refine s_aload_n kx_197_586 rfl ?_
                      refine r_getR (k := 63) (f := 40) (k2 := 88) kx_197_587 kp_197_134 (tk_63 hT) kf_12_40 (by decide) (rq_63_40 hI266) ?_
                      refine s_iload_n kx_197_590 rfl ?_
                      refine r_ald (k := 88) kx_197_591 (tk_88 hT) ⟨by omega, by omega⟩ (rg_88 hI266) (fun v306 v306e v306a v306b => ?_)
                      have hpr307 : v306 = M246 88 ((v13 - 1)).toNat := (v306e).symm.trans ((u266.2 88 _ (by omega)).trans (u255.2 88 _ (by omega)))
                      refine s_iconst (v := 0) kx_197_592 (by decide) ?_
                      refine s_callV2 (k := 63) (s1 := 3) (s2 := 0) (as := [(0, 0), (0, v306)]) (rest := []) kx_197_593 kp_197_352 (Or.inl rfl) rfl (tk_63 hT) ki_189 kcl_189 rfl rfl (by decide) (m_189 (d := d + 1) (sort := v306) (v_ := 0) hT hI266 (by omega) (by omega)) (kV (fun M309 hI309 fr309 v308p => ?_))
                      have hFm309 := hFm266.call fr309 rfl
                      have tr310 := (fr309 63 3 rfl)
                      have tr311 := (fr309 63 4 rfl)
                      have tr312 := (fr309 63 5 rfl)
                      have tr313 := (fr309 63 9 rfl)
                      have tr314 := (fr309 63 42 rfl)
                      have tr315 := (fr309 63 43 rfl)
                      have tr316 := (fr309 63 45 rfl)
                      have tr317 := rg_63_9 hI309
                      have hP318 := PI.code4 hP275 (by omega) (hcl264.2.2.2 (by omega)) fr309 v308p.1 (v308p.2.1.trans hpr307) v308p.2.2
                      refine s_iload_n kx_197_596 rfl ?_
                      refine s_iconst (v := 5) kx_197_597 (by decide) ?_
                      refine s_icmp_ne (t := 613) kx_197_598 (by decide) (fun hc319 => ?_) (fun hc319 => absurd hc319 (by omega))
                      refine s_aload_n kx_197_613 rfl ?_
                      refine s_callV2 (k := 63) (s1 := 1) (s2 := 0) (as := []) (rest := []) kx_197_614 kp_197_286 (Or.inl rfl) rfl (tk_63 hT) ki_180 kcl_180 rfl rfl (by decide) (m_180 (d := d) hT hI309) (kV (fun M321 hI321 fr321 v320p => ?_))
                      have hFm321 := hFm309.call fr321 rfl
                      have tr322 := (fr321 63 9 rfl)
                      have tr323 := (fr321 63 35 rfl)
                      have tr324 := (fr321 63 42 rfl)
                      have tr325 := (fr321 63 43 rfl)
                      have tr326 := (fr321 63 45 rfl)
                      have tr327 := rg_63_9 hI321
                      refine s_iconst (v := 1) kx_197_617 (by decide) ?_
                      have hk328 : M321 63 9 = v243 := ((fr321 63 9 rfl).trans ((fr309 63 9 rfl).trans ((u266.2 63 9 (by omega)).trans ((u255.2 63 9 (by omega)).trans ((fr246 63 9 rfl).trans v243e)))))
                      exact s_iret kx_197_618 (Or.inr ⟨kq_197, by omega⟩) ⟨_, _, rfl, rfl, hI321, hFm321, ⟨by omega, by omega, (show LXp M321 from v320p.2), (by omega), (by omega), (Or.inr (Or.inr ⟨rfl, by omega, Or.inr ⟨((fr321 63 46 rfl).trans ((fr309 63 46 rfl).trans ((u266.2 63 46 (by omega)).trans ((u255.2 63 46 (by omega)).trans ((fr246 63 46 rfl).trans ((fr234 63 46 rfl).trans (fr2 63 46 rfl))))))), (B0.fr (B0.fr (B0.up (show B0 M255 from hcl264.2.1) u266 (by decide)) fr309 rfl (fun _ => rfl)) fr321 rfl (fun _ => rfl)), PI.to7 (PI.fr hP318 fr321 rfl) (by omega)⟩⟩))⟩⟩
                  · refine s_iconst (v := 0) kx_197_553 (by decide) ?_
                    have hk329 : M234 63 4 = v232 := ((fr234 63 4 rfl).trans v232e)
                    have hk330 : M234 63 9 = v243 := v243e
                    exact s_iret kx_197_554 (Or.inr ⟨kq_197, by omega⟩) ⟨_, _, rfl, rfl, hI234, hFm234, ⟨by omega, by omega, (LXp.fr (LXp.fr hX fr2 rfl) fr234 rfl), (by omega), (by omega), (Or.inl (by omega))⟩⟩
              refine s_icmp_ne (t := 529) kx_197_521 (by decide) (fun hc138 => ?_) (fun hc138 => ?_)
              · have hJ139 : Fr fS_197_j521 M2 M2 := Fr.refl
                refine s_bipush (v := 41) kx_197_529 (by decide) ?_
                exact cP.wk (lS1 rfl (lS1 rfl (lS1 rfl lS0))) (jn142 41 (by omega) (by omega))
              · have hJ140 : Fr fS_197_j521 M2 M2 := Fr.refl
                refine s_bipush (v := 93) kx_197_524 (by decide) ?_
                refine s_goto (t := 531) kx_197_526 (by decide) ?_
                exact cP.wk (lS1 rfl (lS1 rfl (lS1 rfl lS0))) (jn142 93 (by omega) (by omega))
            · refine s_aload_n kx_197_452 rfl ?_
              refine s_bipush (v := 44) kx_197_453 (by decide) ?_
              refine s_callV2 (k := 63) (s1 := 2) (s2 := 0) (as := [(0, 44)]) (rest := []) kx_197_455 kp_197_283 (Or.inl rfl) rfl (tk_63 hT) ki_181 kcl_181 rfl rfl (by decide) (m_181 (d := d + 1) (c := 44) hT hI2) (kF (fun v331 v331p => ?_))
              refine s_if_ne (t := 470) kx_197_458 (by decide) (fun hc332 => ?_) (fun hc332 => ?_)
              · replace v331p := v331p.resolve_right (by omega)
                refine s_aload_n kx_197_470 rfl ?_
                refine r_getK (k := 63) (f := 9) kx_197_471 kp_197_39 (tk_63 hT) kf_12_9 (fun _ => rfl) v11e ?_
                refine s_if_le (t := 479) kx_197_474 (by decide) (fun hc333 => ?_) (fun hc333 => absurd hc333 (by omega))
                refine s_aload_n kx_197_479 rfl ?_
                refine s_iconst (v := 1) kx_197_480 (by decide) ?_
                refine s_callV2 (k := 63) (s1 := 2) (s2 := 0) (as := [(0, 1)]) (rest := []) kx_197_481 kp_197_370 (Or.inl rfl) rfl (tk_63 hT) ki_191 kcl_191 rfl rfl (by decide) (m_191 (d := d) (least := 1) hT hI2 (PI.fr hP fr2 rfl) (by omega) (by omega) (by omega)) (kV (fun M335 hI335 fr335 v334p => ?_))
                have hFm335 := hFm2.call fr335 rfl
                have tr336 := (fr335 63 3 rfl)
                have tr337 := (fr335 63 4 rfl)
                have tr338 := (fr335 63 5 rfl)
                have tr339 := (fr335 63 9 rfl)
                have tr340 := (fr335 63 42 rfl)
                have tr341 := rg_63_9 hI335
                have hd342 := PI.deep v334p
                have hs343 := PI.small v334p (rg_63_43 hI335).2 (by decide)
                have hs343a := hs343.1
                have hs343b := hs343.2.1
                have hs343c := rg_63_45 hI335
                have hk85344 : M335 85 ((v13 - 1)).toNat = v14 := ((fr335 85 _ rfl).trans v14e)
                refine s_aload_n kx_197_484 rfl ?_
                refine r_getR (k := 63) (f := 37) (k2 := 85) kx_197_485 kp_197_124 (tk_63 hT) kf_12_37 (by decide) (rq_63_37 hI335) ?_
                refine s_iload_n kx_197_488 rfl ?_
                refine s_iload_n kx_197_489 rfl ?_
                refine s_iconst (v := 3) kx_197_490 (by decide) ?_
                refine s_icmp_ne (t := 498) kx_197_491 (by decide) (fun hc345 => ?_) (fun hc345 => absurd hc345 (by omega))
                refine s_iconst (v := 3) kx_197_498 (by decide) ?_
                refine r_ast (k := 85) kx_197_499 (tk_85 hT) ⟨by omega, by omega⟩ hI335 (ru_85 (by omega) (by omega)) (fun M346 hI346 u346 => ?_)
                have hFm346 := hFm335.up u346 rfl
                have tr347 := (u346.2 63 3 (by omega))
                have tr348 := (u346.2 63 4 (by omega))
                have tr349 := (u346.2 63 5 (by omega))
                have tr350 := (u346.2 63 9 (by omega))
                have tr351 := (u346.2 63 35 (by omega))
                have tr352 := (u346.2 63 42 (by omega))
                have tr353 := (u346.2 63 43 (by omega))
                have tr354 := (u346.2 63 45 (by omega))
                refine s_aload_n kx_197_500 rfl ?_
                refine r_getR (k := 63) (f := 38) (k2 := 86) kx_197_501 kp_197_127 (tk_63 hT) kf_12_38 (by decide) (rq_63_38 hI346) ?_
                refine s_iload_n kx_197_504 rfl ?_
                refine s_iconst (v := 0) kx_197_505 (by decide) ?_
                refine r_ast (k := 86) kx_197_506 (tk_86 hT) ⟨by omega, by omega⟩ hI346 (ru_86 (by omega) (by omega)) (fun M355 hI355 u355 => ?_)
                have hFm355 := hFm346.up u355 rfl
                have tr356 := (u355.2 63 3 (by omega))
                have tr357 := (u355.2 63 4 (by omega))
                have tr358 := (u355.2 63 5 (by omega))
                have tr359 := (u355.2 63 9 (by omega))
                have tr360 := (u355.2 63 35 (by omega))
                have tr361 := (u355.2 63 42 (by omega))
                have tr362 := (u355.2 63 43 (by omega))
                have tr363 := (u355.2 63 45 (by omega))
                refine s_aload_n kx_197_507 rfl ?_
                refine s_callV2 (k := 63) (s1 := 1) (s2 := 0) (as := []) (rest := []) kx_197_508 kp_197_286 (Or.inl rfl) rfl (tk_63 hT) ki_180 kcl_180 rfl rfl (by decide) (m_180 (d := d) hT hI355) (kV (fun M365 hI365 fr365 v364p => ?_))
                have hFm365 := hFm355.call fr365 rfl
                have tr366 := (fr365 63 9 rfl)
                have tr367 := (fr365 63 35 rfl)
                have tr368 := (fr365 63 42 rfl)
                have tr369 := (fr365 63 43 rfl)
                have tr370 := (fr365 63 45 rfl)
                have tr371 := rg_63_9 hI365
                refine s_aload_n kx_197_511 rfl ?_
                refine s_iconst (v := 0) kx_197_512 (by decide) ?_
                refine r_put (k := 63) (f := 46) kx_197_513 kp_197_152 (tk_63 hT) kf_12_46 rfl (by decide) (by decide) hI365 (ru_63_46 (by omega) (by omega)) (fun M372 hI372 u372 => ?_)
                have hFm372 := hFm365.up u372 rfl
                have tr373 := (u372.2 63 3 (by omega))
                have tr374 := (u372.2 63 4 (by omega))
                have tr375 := (u372.2 63 5 (by omega))
                have tr376 := (u372.2 63 9 (by omega))
                have tr377 := (u372.2 63 35 (by omega))
                have tr378 := (u372.2 63 42 (by omega))
                have tr379 := (u372.2 63 43 (by omega))
                have tr380 := (u372.2 63 45 (by omega))
                refine s_iconst (v := 1) kx_197_516 (by decide) ?_
                have hk381 : M372 63 9 = v11 := ((u372.2 63 9 (by omega)).trans ((fr365 63 9 rfl).trans ((u355.2 63 9 (by omega)).trans ((u346.2 63 9 (by omega)).trans ((fr335 63 9 rfl).trans v11e)))))
                exact s_iret kx_197_517 (Or.inr ⟨kq_197, by omega⟩) ⟨_, _, rfl, rfl, hI372, hFm372, ⟨by omega, by omega, (LXp.up (show LXp M365 from v364p.2) u372 (by decide)), (by omega), (by omega), (Or.inr (Or.inr ⟨rfl, by omega, Or.inl ⟨u372.1, PI.to7 (PI.fr (PI.fr (PI.phase (PI.comma v334p (by omega) (by omega) u346) (Or.inr (by omega)) (by omega) u355) fr365 rfl) (Up.fr u372) rfl) (by omega)⟩⟩))⟩⟩
              · replace v331p := v331p.resolve_left (by omega)
                refine s_aload_n kx_197_461 rfl ?_
                refine s_iconst (v := 1) kx_197_462 (by decide) ?_
                refine s_aload_n kx_197_463 rfl ?_
                refine r_getI (k := 63) (f := 4) kx_197_464 kp_197_23 (tk_63 hT) kf_12_4 (fun _ => rfl) (rg_63_4 hI2) (fun v382 v382e v382a v382b => ?_)
                have v382z : M 63 4 = v382 := ((fr2 63 4 rfl)).symm.trans v382e
                refine s_callV2 (k := 63) (s1 := 3) (s2 := 0) (as := [(0, v382), (0, 1)]) (rest := []) kx_197_467 kp_197_263 (Or.inl rfl) rfl (tk_63 hT) ki_176 kcl_176 rfl rfl (by decide) (m_176 (d := d + 1) (kind := 1) (place := v382) hT hI2 (by omega)) (kV (fun M384 hI384 fr384 v383p => ?_))
                have hFm384 := hFm2.call fr384 rfl
                have tr385 := (fr384 63 3 rfl)
                have tr386 := (fr384 63 4 rfl)
                have tr387 := (fr384 63 5 rfl)
                have tr388 := (fr384 63 35 rfl)
                have tr389 := (fr384 63 42 rfl)
                have tr390 := (fr384 63 43 rfl)
                have tr391 := (fr384 63 45 rfl)
                have tr392 := rg_63_9 hI384
                refine s_aload_n kx_197_470 rfl ?_
                refine r_getI (k := 63) (f := 9) kx_197_471 kp_197_39 (tk_63 hT) kf_12_9 (fun _ => rfl) (rg_63_9 hI384) (fun v393 v393e v393a v393b => ?_)
                refine s_if_le (t := 479) kx_197_474 (by decide) (fun hc394 => ?_) (fun hc394 => ?_)
                · refine s_aload_n kx_197_479 rfl ?_
                  refine s_iconst (v := 1) kx_197_480 (by decide) ?_
                  refine s_callV2 (k := 63) (s1 := 2) (s2 := 0) (as := [(0, 1)]) (rest := []) kx_197_481 kp_197_370 (Or.inl rfl) rfl (tk_63 hT) ki_191 kcl_191 rfl rfl (by decide) (m_191 (d := d) (least := 1) hT hI384 (PI.fr (PI.fr hP fr2 rfl) fr384 rfl) (by omega) (by omega) (by omega)) (kV (fun M396 hI396 fr396 v395p => ?_))
                  have hFm396 := hFm384.call fr396 rfl
                  have tr397 := (fr396 63 3 rfl)
                  have tr398 := (fr396 63 4 rfl)
                  have tr399 := (fr396 63 5 rfl)
                  have tr400 := (fr396 63 9 rfl)
                  have tr401 := (fr396 63 42 rfl)
                  have tr402 := rg_63_9 hI396
                  have hd403 := PI.deep v395p
                  have hs404 := PI.small v395p (rg_63_43 hI396).2 (by decide)
                  have hs404a := hs404.1
                  have hs404b := hs404.2.1
                  have hs404c := rg_63_45 hI396
                  have hk85405 : M396 85 ((v13 - 1)).toNat = v14 := ((fr396 85 _ rfl).trans ((fr384 85 _ rfl).trans v14e))
                  refine s_aload_n kx_197_484 rfl ?_
                  refine r_getR (k := 63) (f := 37) (k2 := 85) kx_197_485 kp_197_124 (tk_63 hT) kf_12_37 (by decide) (rq_63_37 hI396) ?_
                  refine s_iload_n kx_197_488 rfl ?_
                  refine s_iload_n kx_197_489 rfl ?_
                  refine s_iconst (v := 3) kx_197_490 (by decide) ?_
                  refine s_icmp_ne (t := 498) kx_197_491 (by decide) (fun hc406 => ?_) (fun hc406 => absurd hc406 (by omega))
                  refine s_iconst (v := 3) kx_197_498 (by decide) ?_
                  refine r_ast (k := 85) kx_197_499 (tk_85 hT) ⟨by omega, by omega⟩ hI396 (ru_85 (by omega) (by omega)) (fun M407 hI407 u407 => ?_)
                  have hFm407 := hFm396.up u407 rfl
                  have tr408 := (u407.2 63 3 (by omega))
                  have tr409 := (u407.2 63 4 (by omega))
                  have tr410 := (u407.2 63 5 (by omega))
                  have tr411 := (u407.2 63 9 (by omega))
                  have tr412 := (u407.2 63 35 (by omega))
                  have tr413 := (u407.2 63 42 (by omega))
                  have tr414 := (u407.2 63 43 (by omega))
                  have tr415 := (u407.2 63 45 (by omega))
                  refine s_aload_n kx_197_500 rfl ?_
                  refine r_getR (k := 63) (f := 38) (k2 := 86) kx_197_501 kp_197_127 (tk_63 hT) kf_12_38 (by decide) (rq_63_38 hI407) ?_
                  refine s_iload_n kx_197_504 rfl ?_
                  refine s_iconst (v := 0) kx_197_505 (by decide) ?_
                  refine r_ast (k := 86) kx_197_506 (tk_86 hT) ⟨by omega, by omega⟩ hI407 (ru_86 (by omega) (by omega)) (fun M416 hI416 u416 => ?_)
                  have hFm416 := hFm407.up u416 rfl
                  have tr417 := (u416.2 63 3 (by omega))
                  have tr418 := (u416.2 63 4 (by omega))
                  have tr419 := (u416.2 63 5 (by omega))
                  have tr420 := (u416.2 63 9 (by omega))
                  have tr421 := (u416.2 63 35 (by omega))
                  have tr422 := (u416.2 63 42 (by omega))
                  have tr423 := (u416.2 63 43 (by omega))
                  have tr424 := (u416.2 63 45 (by omega))
                  refine s_aload_n kx_197_507 rfl ?_
                  refine s_callV2 (k := 63) (s1 := 1) (s2 := 0) (as := []) (rest := []) kx_197_508 kp_197_286 (Or.inl rfl) rfl (tk_63 hT) ki_180 kcl_180 rfl rfl (by decide) (m_180 (d := d) hT hI416) (kV (fun M426 hI426 fr426 v425p => ?_))
                  have hFm426 := hFm416.call fr426 rfl
                  have tr427 := (fr426 63 9 rfl)
                  have tr428 := (fr426 63 35 rfl)
                  have tr429 := (fr426 63 42 rfl)
                  have tr430 := (fr426 63 43 rfl)
                  have tr431 := (fr426 63 45 rfl)
                  have tr432 := rg_63_9 hI426
                  refine s_aload_n kx_197_511 rfl ?_
                  refine s_iconst (v := 0) kx_197_512 (by decide) ?_
                  refine r_put (k := 63) (f := 46) kx_197_513 kp_197_152 (tk_63 hT) kf_12_46 rfl (by decide) (by decide) hI426 (ru_63_46 (by omega) (by omega)) (fun M433 hI433 u433 => ?_)
                  have hFm433 := hFm426.up u433 rfl
                  have tr434 := (u433.2 63 3 (by omega))
                  have tr435 := (u433.2 63 4 (by omega))
                  have tr436 := (u433.2 63 5 (by omega))
                  have tr437 := (u433.2 63 9 (by omega))
                  have tr438 := (u433.2 63 35 (by omega))
                  have tr439 := (u433.2 63 42 (by omega))
                  have tr440 := (u433.2 63 43 (by omega))
                  have tr441 := (u433.2 63 45 (by omega))
                  refine s_iconst (v := 1) kx_197_516 (by decide) ?_
                  have hk442 : M433 63 9 = v393 := ((u433.2 63 9 (by omega)).trans ((fr426 63 9 rfl).trans ((u416.2 63 9 (by omega)).trans ((u407.2 63 9 (by omega)).trans ((fr396 63 9 rfl).trans v393e)))))
                  exact s_iret kx_197_517 (Or.inr ⟨kq_197, by omega⟩) ⟨_, _, rfl, rfl, hI433, hFm433, ⟨by omega, by omega, (LXp.up (show LXp M426 from v425p.2) u433 (by decide)), (by omega), (by omega), (Or.inr (Or.inr ⟨rfl, by omega, Or.inl ⟨u433.1, PI.to7 (PI.fr (PI.fr (PI.phase (PI.comma v395p (by omega) (by omega) u407) (Or.inr (by omega)) (by omega) u416) fr426 rfl) (Up.fr u433) rfl) (by omega)⟩⟩))⟩⟩
                · refine s_iconst (v := 0) kx_197_477 (by decide) ?_
                  have hk443 : M384 63 4 = v382 := ((fr384 63 4 rfl).trans v382e)
                  have hk444 : M384 63 9 = v393 := v393e
                  exact s_iret kx_197_478 (Or.inr ⟨kq_197, by omega⟩) ⟨_, _, rfl, rfl, hI384, hFm384, ⟨by omega, by omega, (LXp.fr (LXp.fr hX fr2 rfl) fr384 rfl), (by omega), (by omega), (Or.inl (by omega))⟩⟩
        · refine s_aload_n kx_197_427 rfl ?_
          refine r_getK (k := 63) (f := 9) kx_197_428 kp_197_39 (tk_63 hT) kf_12_9 (fun _ => rfl) v11e ?_
          refine s_if_ne (t := 439) kx_197_431 (by decide) (fun hc445 => absurd hc445 (by omega)) (fun hc445 => ?_)
          refine s_aload_n kx_197_434 rfl ?_
          refine s_iconst (v := 1) kx_197_435 (by decide) ?_
          refine s_callV2 (k := 63) (s1 := 2) (s2 := 0) (as := [(0, 1)]) (rest := []) kx_197_436 kp_197_370 (Or.inl rfl) rfl (tk_63 hT) ki_191 kcl_191 rfl rfl (by decide) (m_191 (d := d) (least := 1) hT hI2 (PI.fr hP fr2 rfl) (by omega) (by omega) (by omega)) (kV (fun M447 hI447 fr447 v446p => ?_))
          have hFm447 := hFm2.call fr447 rfl
          have tr448 := (fr447 63 3 rfl)
          have tr449 := (fr447 63 4 rfl)
          have tr450 := (fr447 63 5 rfl)
          have tr451 := (fr447 63 9 rfl)
          have tr452 := (fr447 63 42 rfl)
          have tr453 := rg_63_9 hI447
          refine s_iconst (v := 0) kx_197_439 (by decide) ?_
          have hk454 : M447 63 9 = v11 := ((fr447 63 9 rfl).trans v11e)
          exact s_iret kx_197_440 (Or.inr ⟨kq_197, by omega⟩) ⟨_, _, rfl, rfl, hI447, hFm447, ⟨by omega, by omega, (LXp.fr (LXp.fr hX fr2 rfl) fr447 rfl), (by omega), (by omega), (if h9 : 1 ≤ M447 63 9 then Or.inl h9 else Or.inr (Or.inl ⟨rfl, PI.to7 v446p (by omega)⟩))⟩⟩
      · replace v15p := v15p.resolve_right (by omega)
        refine s_aload_n kx_197_192 rfl ?_
        refine r_getR (k := 63) (f := 38) (k2 := 86) kx_197_193 kp_197_127 (tk_63 hT) kf_12_38 (by decide) (rq_63_38 hI2) ?_
        refine s_iload_n kx_197_196 rfl ?_
        refine r_aldK (k := 86) kx_197_197 (tk_86 hT) ⟨by omega, by omega⟩ v16e ?_
        refine s_if_ne (t := 285) kx_197_198 (by decide) (fun hc455 => ?_) (fun hc455 => absurd hc455 (by omega))
        refine s_iload_n kx_197_285 rfl ?_
        refine s_if_eq (t := 400) kx_197_286 (by decide) (fun hc456 => absurd hc456 (by omega)) (fun hc456 => ?_)
        refine s_aload_n kx_197_289 rfl ?_
        refine s_ldc2_w kx_197_290 kp_197_327 ?_
        refine s_callV2 (k := 63) (s1 := 3) (s2 := 0) (as := [(1, 6385252)]) (rest := []) kx_197_293 kp_197_361 (Or.inl rfl) rfl (tk_63 hT) ki_182 kcl_182 rfl rfl (by decide) (m_182 (d := d + 1) (w := 6385252) hT hI2) (kF (fun v457 v457p => ?_))
        refine s_if_ne (t := 309) kx_197_296 (by decide) (fun hc458 => ?_) (fun hc458 => ?_)
        · replace v457p := v457p.resolve_right (by omega)
          refine s_aload_n kx_197_309 rfl ?_
          refine r_getR (k := 63) (f := 38) (k2 := 86) kx_197_310 kp_197_127 (tk_63 hT) kf_12_38 (by decide) (rq_63_38 hI2) ?_
          refine s_iload_n kx_197_313 rfl ?_
          refine r_aldK (k := 86) kx_197_314 (tk_86 hT) ⟨by omega, by omega⟩ v16e ?_
          refine s_if_ne (t := 327) kx_197_315 (by decide) (fun hc459 => ?_) (fun hc459 => absurd hc459 (by omega))
          refine s_aload_n kx_197_327 rfl ?_
          refine r_getK (k := 63) (f := 9) kx_197_328 kp_197_39 (tk_63 hT) kf_12_9 (fun _ => rfl) v11e ?_
          refine s_if_le (t := 336) kx_197_331 (by decide) (fun hc460 => ?_) (fun hc460 => absurd hc460 (by omega))
          refine s_aload_n kx_197_336 rfl ?_
          refine s_ldc2_w kx_197_337 kp_197_327 ?_
          refine s_callV2 (k := 63) (s1 := 3) (s2 := 0) (as := [(1, 6385252)]) (rest := []) kx_197_340 kp_197_361 (Or.inl rfl) rfl (tk_63 hT) ki_182 kcl_182 rfl rfl (by decide) (m_182 (d := d + 1) (w := 6385252) hT hI2) (kF (fun v461 v461p => ?_))
          refine s_istore kx_197_343 km_197_4 rfl ?_
          refine s_aload_n kx_197_345 rfl ?_
          refine s_iload kx_197_346 rfl ?_
          have jn466 : ∀ (y465 : Int), (1 ≤ y465) → (y465 ≤ 2) → ((y465 = 2 ∧ v461 ≠ 0) ∨ (y465 = 1 ∧ v461 = 0)) → cP k_P xs Ln (d + 2) 197 356 [(0, rf 63), (1, (0, (v13 - 1))), (4, (0, v461))] [(0, y465), rf 63] (T, M2) (qW T M fS_197_m 0 (fun v M1 => 0 ≤ v ∧ v ≤ 1 ∧ (LXp M1 ∧ M 63 4 ≤ M1 63 4 ∧ M 63 9 ≤ M1 63 9 ∧ (GOd M M1 c a v)))) := by
            intro y465 a467 a468 a469
            refine s_callV2 (k := 63) (s1 := 2) (s2 := 0) (as := [(0, y465)]) (rest := []) kx_197_356 kp_197_370 (Or.inl rfl) rfl (tk_63 hT) ki_191 kcl_191 rfl rfl (by decide) (m_191 (d := d) (least := y465) hT hI2 (PI.fr hP fr2 rfl) (by omega) (by omega) (by omega)) (kV (fun M471 hI471 fr471 v470p => ?_))
            have hFm471 := hFm2.call fr471 rfl
            have tr472 := (fr471 63 3 rfl)
            have tr473 := (fr471 63 4 rfl)
            have tr474 := (fr471 63 5 rfl)
            have tr475 := (fr471 63 9 rfl)
            have tr476 := (fr471 63 42 rfl)
            have tr477 := rg_63_9 hI471
            have hd478 := PI.deep v470p
            have hs479 := PI.small v470p (rg_63_43 hI471).2 (by decide)
            have hs479a := hs479.1
            have hs479b := hs479.2.1
            have hs479c := rg_63_45 hI471
            refine s_aload_n kx_197_359 rfl ?_
            refine s_iload kx_197_360 rfl ?_
            have jn484 : ∀ (y483 : Int), (20 ≤ y483) → (y483 ≤ 21) → ((y483 = 20 ∧ v461 ≠ 0) ∨ (y483 = 21 ∧ v461 = 0)) → cP k_P xs Ln (d + 2) 197 372 [(0, rf 63), (1, (0, (v13 - 1)))] [(0, y483), rf 63] (T, M471) (qW T M fS_197_m 0 (fun v M1 => 0 ≤ v ∧ v ≤ 1 ∧ (LXp M1 ∧ M 63 4 ≤ M1 63 4 ∧ M 63 9 ≤ M1 63 9 ∧ (GOd M M1 c a v)))) := by
              intro y483 a485 a486 a487
              refine s_callV2 (k := 63) (s1 := 2) (s2 := 0) (as := [(0, y483)]) (rest := []) kx_197_372 kp_197_364 (Or.inl rfl) rfl (tk_63 hT) ki_192 kcl_192 rfl rfl (by decide) (m_192 (d := d + 1) (op := y483) hT hI471 (by omega) (by omega)) (kV (fun M489 hI489 fr489 v488p => ?_))
              have hFm489 := hFm471.call fr489 rfl
              have tr490 := (fr489 63 3 rfl)
              have tr491 := (fr489 63 4 rfl)
              have tr492 := (fr489 63 5 rfl)
              have tr493 := (fr489 63 9 rfl)
              have tr494 := (fr489 63 35 rfl)
              have tr495 := (fr489 63 42 rfl)
              have tr496 := (fr489 63 43 rfl)
              have tr497 := rg_63_9 hI489
              have hP498 := PI.holdL v470p (B0.fr (B0.fr hB fr2 rfl (fun _ => rfl)) fr471 rfl (fun _ => rfl)) (by omega) fr489 v488p.1 v488p.2.1 v488p.2.2
              refine s_aload_n kx_197_375 rfl ?_
              refine r_getR (k := 63) (f := 38) (k2 := 86) kx_197_376 kp_197_127 (tk_63 hT) kf_12_38 (by decide) (rq_63_38 hI489) ?_
              refine s_iload_n kx_197_379 rfl ?_
              refine s_iconst (v := 0) kx_197_380 (by decide) ?_
              refine r_ast (k := 86) kx_197_381 (tk_86 hT) ⟨by omega, by omega⟩ hI489 (ru_86 (by omega) (by omega)) (fun M499 hI499 u499 => ?_)
              have hFm499 := hFm489.up u499 rfl
              have tr500 := (u499.2 63 3 (by omega))
              have tr501 := (u499.2 63 4 (by omega))
              have tr502 := (u499.2 63 5 (by omega))
              have tr503 := (u499.2 63 9 (by omega))
              have tr504 := (u499.2 63 35 (by omega))
              have tr505 := (u499.2 63 42 (by omega))
              have tr506 := (u499.2 63 43 (by omega))
              have tr507 := (u499.2 63 45 (by omega))
              refine s_aload_n kx_197_382 rfl ?_
              refine r_getR (k := 63) (f := 39) (k2 := 87) kx_197_383 kp_197_130 (tk_63 hT) kf_12_39 (by decide) (rq_63_39 hI499) ?_
              refine s_iload_n kx_197_386 rfl ?_
              refine s_iconst (v := 1) kx_197_387 (by decide) ?_
              refine r_bast (k := 87) kx_197_388 (tk_87 hT) ⟨by omega, by omega⟩ (by omega) hI499 (ru_87 (by omega) (by omega)) (fun M508 hI508 u508 => ?_)
              have hFm508 := hFm499.up u508 rfl
              have tr509 := (u508.2 63 3 (by omega))
              have tr510 := (u508.2 63 4 (by omega))
              have tr511 := (u508.2 63 5 (by omega))
              have tr512 := (u508.2 63 9 (by omega))
              have tr513 := (u508.2 63 35 (by omega))
              have tr514 := (u508.2 63 42 (by omega))
              have tr515 := (u508.2 63 43 (by omega))
              have tr516 := (u508.2 63 45 (by omega))
              refine s_aload_n kx_197_389 rfl ?_
              refine s_callV2 (k := 63) (s1 := 1) (s2 := 0) (as := []) (rest := []) kx_197_390 kp_197_286 (Or.inl rfl) rfl (tk_63 hT) ki_180 kcl_180 rfl rfl (by decide) (m_180 (d := d) hT hI508) (kV (fun M518 hI518 fr518 v517p => ?_))
              have hFm518 := hFm508.call fr518 rfl
              have tr519 := (fr518 63 9 rfl)
              have tr520 := (fr518 63 35 rfl)
              have tr521 := (fr518 63 42 rfl)
              have tr522 := (fr518 63 43 rfl)
              have tr523 := (fr518 63 45 rfl)
              have tr524 := rg_63_9 hI518
              refine s_aload_n kx_197_393 rfl ?_
              refine s_iconst (v := 0) kx_197_394 (by decide) ?_
              refine r_put (k := 63) (f := 46) kx_197_395 kp_197_152 (tk_63 hT) kf_12_46 rfl (by decide) (by decide) hI518 (ru_63_46 (by omega) (by omega)) (fun M525 hI525 u525 => ?_)
              have hFm525 := hFm518.up u525 rfl
              have tr526 := (u525.2 63 3 (by omega))
              have tr527 := (u525.2 63 4 (by omega))
              have tr528 := (u525.2 63 5 (by omega))
              have tr529 := (u525.2 63 9 (by omega))
              have tr530 := (u525.2 63 35 (by omega))
              have tr531 := (u525.2 63 42 (by omega))
              have tr532 := (u525.2 63 43 (by omega))
              have tr533 := (u525.2 63 45 (by omega))
              refine s_iconst (v := 1) kx_197_398 (by decide) ?_
              have hk534 : M525 63 9 = v11 := ((u525.2 63 9 (by omega)).trans ((fr518 63 9 rfl).trans ((u508.2 63 9 (by omega)).trans ((u499.2 63 9 (by omega)).trans ((fr489 63 9 rfl).trans ((fr471 63 9 rfl).trans v11e))))))
              exact s_iret kx_197_399 (Or.inr ⟨kq_197, by omega⟩) ⟨_, _, rfl, rfl, hI525, hFm525, ⟨by omega, by omega, (LXp.up (show LXp M518 from v517p.2) u525 (by decide)), (by omega), (by omega), (Or.inr (Or.inr ⟨rfl, by omega, Or.inl ⟨u525.1, PI.to7 (PI.fr (PI.fr (PI.begins1 (PI.phase hP498 (Or.inr (by omega)) (by omega) u499) (by omega) (by omega) u508) fr518 rfl) (Up.fr u525) rfl) (by omega)⟩⟩))⟩⟩
            refine s_if_eq (t := 370) kx_197_362 (by decide) (fun hc480 => ?_) (fun hc480 => ?_)
            · have hJ481 : Fr fS_197_j362 M471 M471 := Fr.refl
              refine s_bipush (v := 21) kx_197_370 (by decide) ?_
              exact cP.wk (lS1 rfl (lS1 rfl lS0)) (jn484 21 (by omega) (by omega) (by omega))
            · have hJ482 : Fr fS_197_j362 M471 M471 := Fr.refl
              refine s_bipush (v := 20) kx_197_365 (by decide) ?_
              refine s_goto (t := 372) kx_197_367 (by decide) ?_
              exact cP.wk (lS1 rfl (lS1 rfl lS0)) (jn484 20 (by omega) (by omega) (by omega))
          refine s_if_eq (t := 355) kx_197_348 (by decide) (fun hc462 => ?_) (fun hc462 => ?_)
          · have hJ463 : Fr fS_197_j348 M2 M2 := Fr.refl
            replace v461p := v461p.resolve_left (by omega)
            refine s_iconst (v := 1) kx_197_355 (by decide) ?_
            exact cP.wk (lS1 rfl (lS1 rfl (lS1 rfl lS0))) (jn466 1 (by omega) (by omega) (by omega))
          · have hJ464 : Fr fS_197_j348 M2 M2 := Fr.refl
            replace v461p := v461p.resolve_right (by omega)
            refine s_iconst (v := 2) kx_197_351 (by decide) ?_
            refine s_goto (t := 356) kx_197_352 (by decide) ?_
            exact cP.wk (lS1 rfl (lS1 rfl (lS1 rfl lS0))) (jn466 2 (by omega) (by omega) (by omega))
        · replace v457p := v457p.resolve_left (by omega)
          refine s_aload_n kx_197_299 rfl ?_
          refine s_ldc2_w kx_197_300 kp_197_325 ?_
          refine s_callV2 (k := 63) (s1 := 3) (s2 := 0) (as := [(1, 28530)]) (rest := []) kx_197_303 kp_197_361 (Or.inl rfl) rfl (tk_63 hT) ki_182 kcl_182 rfl rfl (by decide) (m_182 (d := d + 1) (w := 28530) hT hI2) (kF (fun v535 v535p => ?_))
          refine s_if_eq (t := 400) kx_197_306 (by decide) (fun hc536 => ?_) (fun hc536 => ?_)
          · replace v535p := v535p.resolve_left (by omega)
            refine s_iload_n kx_197_400 rfl ?_
            refine s_if_eq (t := 422) kx_197_401 (by decide) (fun hc537 => absurd hc537 (by omega)) (fun hc537 => ?_)
            refine s_aload_n kx_197_404 rfl ?_
            refine r_getR (k := 63) (f := 38) (k2 := 86) kx_197_405 kp_197_127 (tk_63 hT) kf_12_38 (by decide) (rq_63_38 hI2) ?_
            refine s_iload_n kx_197_408 rfl ?_
            refine r_aldK (k := 86) kx_197_409 (tk_86 hT) ⟨by omega, by omega⟩ v16e ?_
            refine s_if_ne (t := 422) kx_197_410 (by decide) (fun hc538 => ?_) (fun hc538 => absurd hc538 (by omega))
            refine s_iload_n kx_197_422 rfl ?_
            refine s_iconst (v := 2) kx_197_423 (by decide) ?_
            refine s_icmp_ge (t := 441) kx_197_424 (by decide) (fun hc539 => ?_) (fun hc539 => ?_)
            · refine s_iload_n kx_197_441 rfl ?_
              refine s_iconst (v := 3) kx_197_442 (by decide) ?_
              refine s_icmp_eq (t := 452) kx_197_443 (by decide) (fun hc540 => ?_) (fun hc540 => ?_)
              · refine s_aload_n kx_197_452 rfl ?_
                refine s_bipush (v := 44) kx_197_453 (by decide) ?_
                refine s_callV2 (k := 63) (s1 := 2) (s2 := 0) (as := [(0, 44)]) (rest := []) kx_197_455 kp_197_283 (Or.inl rfl) rfl (tk_63 hT) ki_181 kcl_181 rfl rfl (by decide) (m_181 (d := d + 1) (c := 44) hT hI2) (kF (fun v541 v541p => ?_))
                refine s_if_ne (t := 470) kx_197_458 (by decide) (fun hc542 => ?_) (fun hc542 => ?_)
                · replace v541p := v541p.resolve_right (by omega)
                  refine s_aload_n kx_197_470 rfl ?_
                  refine r_getK (k := 63) (f := 9) kx_197_471 kp_197_39 (tk_63 hT) kf_12_9 (fun _ => rfl) v11e ?_
                  refine s_if_le (t := 479) kx_197_474 (by decide) (fun hc543 => ?_) (fun hc543 => absurd hc543 (by omega))
                  refine s_aload_n kx_197_479 rfl ?_
                  refine s_iconst (v := 1) kx_197_480 (by decide) ?_
                  refine s_callV2 (k := 63) (s1 := 2) (s2 := 0) (as := [(0, 1)]) (rest := []) kx_197_481 kp_197_370 (Or.inl rfl) rfl (tk_63 hT) ki_191 kcl_191 rfl rfl (by decide) (m_191 (d := d) (least := 1) hT hI2 (PI.fr hP fr2 rfl) (by omega) (by omega) (by omega)) (kV (fun M545 hI545 fr545 v544p => ?_))
                  have hFm545 := hFm2.call fr545 rfl
                  have tr546 := (fr545 63 3 rfl)
                  have tr547 := (fr545 63 4 rfl)
                  have tr548 := (fr545 63 5 rfl)
                  have tr549 := (fr545 63 9 rfl)
                  have tr550 := (fr545 63 42 rfl)
                  have tr551 := rg_63_9 hI545
                  have hd552 := PI.deep v544p
                  have hs553 := PI.small v544p (rg_63_43 hI545).2 (by decide)
                  have hs553a := hs553.1
                  have hs553b := hs553.2.1
                  have hs553c := rg_63_45 hI545
                  have hk85554 : M545 85 ((v13 - 1)).toNat = v14 := ((fr545 85 _ rfl).trans v14e)
                  refine s_aload_n kx_197_484 rfl ?_
                  refine r_getR (k := 63) (f := 37) (k2 := 85) kx_197_485 kp_197_124 (tk_63 hT) kf_12_37 (by decide) (rq_63_37 hI545) ?_
                  refine s_iload_n kx_197_488 rfl ?_
                  refine s_iload_n kx_197_489 rfl ?_
                  refine s_iconst (v := 3) kx_197_490 (by decide) ?_
                  refine s_icmp_ne (t := 498) kx_197_491 (by decide) (fun hc555 => absurd hc555 (by omega)) (fun hc555 => ?_)
                  refine s_iconst (v := 4) kx_197_494 (by decide) ?_
                  refine s_goto (t := 499) kx_197_495 (by decide) ?_
                  refine r_ast (k := 85) kx_197_499 (tk_85 hT) ⟨by omega, by omega⟩ hI545 (ru_85 (by omega) (by omega)) (fun M556 hI556 u556 => ?_)
                  have hFm556 := hFm545.up u556 rfl
                  have tr557 := (u556.2 63 3 (by omega))
                  have tr558 := (u556.2 63 4 (by omega))
                  have tr559 := (u556.2 63 5 (by omega))
                  have tr560 := (u556.2 63 9 (by omega))
                  have tr561 := (u556.2 63 35 (by omega))
                  have tr562 := (u556.2 63 42 (by omega))
                  have tr563 := (u556.2 63 43 (by omega))
                  have tr564 := (u556.2 63 45 (by omega))
                  refine s_aload_n kx_197_500 rfl ?_
                  refine r_getR (k := 63) (f := 38) (k2 := 86) kx_197_501 kp_197_127 (tk_63 hT) kf_12_38 (by decide) (rq_63_38 hI556) ?_
                  refine s_iload_n kx_197_504 rfl ?_
                  refine s_iconst (v := 0) kx_197_505 (by decide) ?_
                  refine r_ast (k := 86) kx_197_506 (tk_86 hT) ⟨by omega, by omega⟩ hI556 (ru_86 (by omega) (by omega)) (fun M565 hI565 u565 => ?_)
                  have hFm565 := hFm556.up u565 rfl
                  have tr566 := (u565.2 63 3 (by omega))
                  have tr567 := (u565.2 63 4 (by omega))
                  have tr568 := (u565.2 63 5 (by omega))
                  have tr569 := (u565.2 63 9 (by omega))
                  have tr570 := (u565.2 63 35 (by omega))
                  have tr571 := (u565.2 63 42 (by omega))
                  have tr572 := (u565.2 63 43 (by omega))
                  have tr573 := (u565.2 63 45 (by omega))
                  refine s_aload_n kx_197_507 rfl ?_
                  refine s_callV2 (k := 63) (s1 := 1) (s2 := 0) (as := []) (rest := []) kx_197_508 kp_197_286 (Or.inl rfl) rfl (tk_63 hT) ki_180 kcl_180 rfl rfl (by decide) (m_180 (d := d) hT hI565) (kV (fun M575 hI575 fr575 v574p => ?_))
                  have hFm575 := hFm565.call fr575 rfl
                  have tr576 := (fr575 63 9 rfl)
                  have tr577 := (fr575 63 35 rfl)
                  have tr578 := (fr575 63 42 rfl)
                  have tr579 := (fr575 63 43 rfl)
                  have tr580 := (fr575 63 45 rfl)
                  have tr581 := rg_63_9 hI575
                  refine s_aload_n kx_197_511 rfl ?_
                  refine s_iconst (v := 0) kx_197_512 (by decide) ?_
                  refine r_put (k := 63) (f := 46) kx_197_513 kp_197_152 (tk_63 hT) kf_12_46 rfl (by decide) (by decide) hI575 (ru_63_46 (by omega) (by omega)) (fun M582 hI582 u582 => ?_)
                  have hFm582 := hFm575.up u582 rfl
                  have tr583 := (u582.2 63 3 (by omega))
                  have tr584 := (u582.2 63 4 (by omega))
                  have tr585 := (u582.2 63 5 (by omega))
                  have tr586 := (u582.2 63 9 (by omega))
                  have tr587 := (u582.2 63 35 (by omega))
                  have tr588 := (u582.2 63 42 (by omega))
                  have tr589 := (u582.2 63 43 (by omega))
                  have tr590 := (u582.2 63 45 (by omega))
                  refine s_iconst (v := 1) kx_197_516 (by decide) ?_
                  have hk591 : M582 63 9 = v11 := ((u582.2 63 9 (by omega)).trans ((fr575 63 9 rfl).trans ((u565.2 63 9 (by omega)).trans ((u556.2 63 9 (by omega)).trans ((fr545 63 9 rfl).trans v11e)))))
                  exact s_iret kx_197_517 (Or.inr ⟨kq_197, by omega⟩) ⟨_, _, rfl, rfl, hI582, hFm582, ⟨by omega, by omega, (LXp.up (show LXp M575 from v574p.2) u582 (by decide)), (by omega), (by omega), (Or.inr (Or.inr ⟨rfl, by omega, Or.inl ⟨u582.1, PI.to7 (PI.fr (PI.fr (PI.phase (PI.comma v544p (by omega) (by omega) u556) (Or.inr (by omega)) (by omega) u565) fr575 rfl) (Up.fr u582) rfl) (by omega)⟩⟩))⟩⟩
                · replace v541p := v541p.resolve_left (by omega)
                  refine s_aload_n kx_197_461 rfl ?_
                  refine s_iconst (v := 1) kx_197_462 (by decide) ?_
                  refine s_aload_n kx_197_463 rfl ?_
                  refine r_getI (k := 63) (f := 4) kx_197_464 kp_197_23 (tk_63 hT) kf_12_4 (fun _ => rfl) (rg_63_4 hI2) (fun v592 v592e v592a v592b => ?_)
                  have v592z : M 63 4 = v592 := ((fr2 63 4 rfl)).symm.trans v592e
                  refine s_callV2 (k := 63) (s1 := 3) (s2 := 0) (as := [(0, v592), (0, 1)]) (rest := []) kx_197_467 kp_197_263 (Or.inl rfl) rfl (tk_63 hT) ki_176 kcl_176 rfl rfl (by decide) (m_176 (d := d + 1) (kind := 1) (place := v592) hT hI2 (by omega)) (kV (fun M594 hI594 fr594 v593p => ?_))
                  have hFm594 := hFm2.call fr594 rfl
                  have tr595 := (fr594 63 3 rfl)
                  have tr596 := (fr594 63 4 rfl)
                  have tr597 := (fr594 63 5 rfl)
                  have tr598 := (fr594 63 35 rfl)
                  have tr599 := (fr594 63 42 rfl)
                  have tr600 := (fr594 63 43 rfl)
                  have tr601 := (fr594 63 45 rfl)
                  have tr602 := rg_63_9 hI594
                  refine s_aload_n kx_197_470 rfl ?_
                  refine r_getI (k := 63) (f := 9) kx_197_471 kp_197_39 (tk_63 hT) kf_12_9 (fun _ => rfl) (rg_63_9 hI594) (fun v603 v603e v603a v603b => ?_)
                  refine s_if_le (t := 479) kx_197_474 (by decide) (fun hc604 => ?_) (fun hc604 => ?_)
                  · refine s_aload_n kx_197_479 rfl ?_
                    refine s_iconst (v := 1) kx_197_480 (by decide) ?_
                    refine s_callV2 (k := 63) (s1 := 2) (s2 := 0) (as := [(0, 1)]) (rest := []) kx_197_481 kp_197_370 (Or.inl rfl) rfl (tk_63 hT) ki_191 kcl_191 rfl rfl (by decide) (m_191 (d := d) (least := 1) hT hI594 (PI.fr (PI.fr hP fr2 rfl) fr594 rfl) (by omega) (by omega) (by omega)) (kV (fun M606 hI606 fr606 v605p => ?_))
                    have hFm606 := hFm594.call fr606 rfl
                    have tr607 := (fr606 63 3 rfl)
                    have tr608 := (fr606 63 4 rfl)
                    have tr609 := (fr606 63 5 rfl)
                    have tr610 := (fr606 63 9 rfl)
                    have tr611 := (fr606 63 42 rfl)
                    have tr612 := rg_63_9 hI606
                    have hd613 := PI.deep v605p
                    have hs614 := PI.small v605p (rg_63_43 hI606).2 (by decide)
                    have hs614a := hs614.1
                    have hs614b := hs614.2.1
                    have hs614c := rg_63_45 hI606
                    have hk85615 : M606 85 ((v13 - 1)).toNat = v14 := ((fr606 85 _ rfl).trans ((fr594 85 _ rfl).trans v14e))
                    refine s_aload_n kx_197_484 rfl ?_
                    refine r_getR (k := 63) (f := 37) (k2 := 85) kx_197_485 kp_197_124 (tk_63 hT) kf_12_37 (by decide) (rq_63_37 hI606) ?_
                    refine s_iload_n kx_197_488 rfl ?_
                    refine s_iload_n kx_197_489 rfl ?_
                    refine s_iconst (v := 3) kx_197_490 (by decide) ?_
                    refine s_icmp_ne (t := 498) kx_197_491 (by decide) (fun hc616 => absurd hc616 (by omega)) (fun hc616 => ?_)
                    refine s_iconst (v := 4) kx_197_494 (by decide) ?_
                    refine s_goto (t := 499) kx_197_495 (by decide) ?_
                    refine r_ast (k := 85) kx_197_499 (tk_85 hT) ⟨by omega, by omega⟩ hI606 (ru_85 (by omega) (by omega)) (fun M617 hI617 u617 => ?_)
                    have hFm617 := hFm606.up u617 rfl
                    have tr618 := (u617.2 63 3 (by omega))
                    have tr619 := (u617.2 63 4 (by omega))
                    have tr620 := (u617.2 63 5 (by omega))
                    have tr621 := (u617.2 63 9 (by omega))
                    have tr622 := (u617.2 63 35 (by omega))
                    have tr623 := (u617.2 63 42 (by omega))
                    have tr624 := (u617.2 63 43 (by omega))
                    have tr625 := (u617.2 63 45 (by omega))
                    refine s_aload_n kx_197_500 rfl ?_
                    refine r_getR (k := 63) (f := 38) (k2 := 86) kx_197_501 kp_197_127 (tk_63 hT) kf_12_38 (by decide) (rq_63_38 hI617) ?_
                    refine s_iload_n kx_197_504 rfl ?_
                    refine s_iconst (v := 0) kx_197_505 (by decide) ?_
                    refine r_ast (k := 86) kx_197_506 (tk_86 hT) ⟨by omega, by omega⟩ hI617 (ru_86 (by omega) (by omega)) (fun M626 hI626 u626 => ?_)
                    have hFm626 := hFm617.up u626 rfl
                    have tr627 := (u626.2 63 3 (by omega))
                    have tr628 := (u626.2 63 4 (by omega))
                    have tr629 := (u626.2 63 5 (by omega))
                    have tr630 := (u626.2 63 9 (by omega))
                    have tr631 := (u626.2 63 35 (by omega))
                    have tr632 := (u626.2 63 42 (by omega))
                    have tr633 := (u626.2 63 43 (by omega))
                    have tr634 := (u626.2 63 45 (by omega))
                    refine s_aload_n kx_197_507 rfl ?_
                    refine s_callV2 (k := 63) (s1 := 1) (s2 := 0) (as := []) (rest := []) kx_197_508 kp_197_286 (Or.inl rfl) rfl (tk_63 hT) ki_180 kcl_180 rfl rfl (by decide) (m_180 (d := d) hT hI626) (kV (fun M636 hI636 fr636 v635p => ?_))
                    have hFm636 := hFm626.call fr636 rfl
                    have tr637 := (fr636 63 9 rfl)
                    have tr638 := (fr636 63 35 rfl)
                    have tr639 := (fr636 63 42 rfl)
                    have tr640 := (fr636 63 43 rfl)
                    have tr641 := (fr636 63 45 rfl)
                    have tr642 := rg_63_9 hI636
                    refine s_aload_n kx_197_511 rfl ?_
                    refine s_iconst (v := 0) kx_197_512 (by decide) ?_
                    refine r_put (k := 63) (f := 46) kx_197_513 kp_197_152 (tk_63 hT) kf_12_46 rfl (by decide) (by decide) hI636 (ru_63_46 (by omega) (by omega)) (fun M643 hI643 u643 => ?_)
                    have hFm643 := hFm636.up u643 rfl
                    have tr644 := (u643.2 63 3 (by omega))
                    have tr645 := (u643.2 63 4 (by omega))
                    have tr646 := (u643.2 63 5 (by omega))
                    have tr647 := (u643.2 63 9 (by omega))
                    have tr648 := (u643.2 63 35 (by omega))
                    have tr649 := (u643.2 63 42 (by omega))
                    have tr650 := (u643.2 63 43 (by omega))
                    have tr651 := (u643.2 63 45 (by omega))
                    refine s_iconst (v := 1) kx_197_516 (by decide) ?_
                    have hk652 : M643 63 9 = v603 := ((u643.2 63 9 (by omega)).trans ((fr636 63 9 rfl).trans ((u626.2 63 9 (by omega)).trans ((u617.2 63 9 (by omega)).trans ((fr606 63 9 rfl).trans v603e)))))
                    exact s_iret kx_197_517 (Or.inr ⟨kq_197, by omega⟩) ⟨_, _, rfl, rfl, hI643, hFm643, ⟨by omega, by omega, (LXp.up (show LXp M636 from v635p.2) u643 (by decide)), (by omega), (by omega), (Or.inr (Or.inr ⟨rfl, by omega, Or.inl ⟨u643.1, PI.to7 (PI.fr (PI.fr (PI.phase (PI.comma v605p (by omega) (by omega) u617) (Or.inr (by omega)) (by omega) u626) fr636 rfl) (Up.fr u643) rfl) (by omega)⟩⟩))⟩⟩
                  · refine s_iconst (v := 0) kx_197_477 (by decide) ?_
                    have hk653 : M594 63 4 = v592 := ((fr594 63 4 rfl).trans v592e)
                    have hk654 : M594 63 9 = v603 := v603e
                    exact s_iret kx_197_478 (Or.inr ⟨kq_197, by omega⟩) ⟨_, _, rfl, rfl, hI594, hFm594, ⟨by omega, by omega, (LXp.fr (LXp.fr hX fr2 rfl) fr594 rfl), (by omega), (by omega), (Or.inl (by omega))⟩⟩
              · refine s_iload_n kx_197_446 rfl ?_
                refine s_bipush (v := 6) kx_197_447 (by decide) ?_
                refine s_icmp_ne (t := 518) kx_197_449 (by decide) (fun hc655 => ?_) (fun hc655 => ?_)
                · refine s_aload_n kx_197_518 rfl ?_
                  refine s_iload_n kx_197_519 rfl ?_
                  refine s_iconst (v := 5) kx_197_520 (by decide) ?_
                  have jn660 : ∀ (y659 : Int), (41 ≤ y659) → (y659 ≤ 93) → cP k_P xs Ln (d + 2) 197 531 [(0, rf 63), (1, (0, (v13 - 1))), (2, (0, v14))] [(0, y659), rf 63] (T, M2) (qW T M fS_197_m 0 (fun v M1 => 0 ≤ v ∧ v ≤ 1 ∧ (LXp M1 ∧ M 63 4 ≤ M1 63 4 ∧ M 63 9 ≤ M1 63 9 ∧ (GOd M M1 c a v)))) := by
                    intro y659 a661 a662
                    refine s_callV2 (k := 63) (s1 := 2) (s2 := 0) (as := [(0, y659)]) (rest := []) kx_197_531 kp_197_283 (Or.inl rfl) rfl (tk_63 hT) ki_181 kcl_181 rfl rfl (by decide) (m_181 (d := d + 1) (c := y659) hT hI2) (kF (fun v663 v663p => ?_))
                    refine s_if_ne (t := 546) kx_197_534 (by decide) (fun hc664 => ?_) (fun hc664 => ?_)
                    · replace v663p := v663p.resolve_right (by omega)
                      refine s_aload_n kx_197_546 rfl ?_
                      refine r_getK (k := 63) (f := 9) kx_197_547 kp_197_39 (tk_63 hT) kf_12_9 (fun _ => rfl) v11e ?_
                      refine s_if_le (t := 555) kx_197_550 (by decide) (fun hc665 => ?_) (fun hc665 => absurd hc665 (by omega))
                      refine s_aload_n kx_197_555 rfl ?_
                      refine s_iconst (v := 1) kx_197_556 (by decide) ?_
                      refine s_callV2 (k := 63) (s1 := 2) (s2 := 0) (as := [(0, 1)]) (rest := []) kx_197_557 kp_197_370 (Or.inl rfl) rfl (tk_63 hT) ki_191 kcl_191 rfl rfl (by decide) (m_191 (d := d) (least := 1) hT hI2 (PI.fr hP fr2 rfl) (by omega) (by omega) (by omega)) (kV (fun M667 hI667 fr667 v666p => ?_))
                      have hFm667 := hFm2.call fr667 rfl
                      have tr668 := (fr667 63 3 rfl)
                      have tr669 := (fr667 63 4 rfl)
                      have tr670 := (fr667 63 5 rfl)
                      have tr671 := (fr667 63 9 rfl)
                      have tr672 := (fr667 63 42 rfl)
                      have tr673 := rg_63_9 hI667
                      have hd674 := PI.deep v666p
                      have hs675 := PI.small v666p (rg_63_43 hI667).2 (by decide)
                      have hs675a := hs675.1
                      have hs675b := hs675.2.1
                      have hs675c := rg_63_45 hI667
                      refine s_aload_n kx_197_560 rfl ?_
                      refine s_dup kx_197_561 rfl ?_
                      refine r_getK (k := 63) (f := 42) kx_197_562 kp_197_140 (tk_63 hT) kf_12_42 (fun _ => rfl) ((fr667 63 42 rfl).trans v13e) ?_
                      refine s_iconst (v := 1) kx_197_565 (by decide) ?_
                      refine r_sub kx_197_566 ⟨by omega, by omega⟩ ?_
                      refine r_put (k := 63) (f := 42) kx_197_567 kp_197_140 (tk_63 hT) kf_12_42 rfl (by decide) (by decide) hI667 (ru_63_42 (by omega) (by omega)) (fun M676 hI676 u676 => ?_)
                      have hFm676 := hFm667.up u676 rfl
                      have tr677 := (u676.2 63 3 (by omega))
                      have tr678 := (u676.2 63 4 (by omega))
                      have tr679 := (u676.2 63 5 (by omega))
                      have tr680 := (u676.2 63 9 (by omega))
                      have tr681 := (u676.2 63 35 (by omega))
                      have tr682 := u676.1
                      have tr683 := (u676.2 63 43 (by omega))
                      have tr684 := (u676.2 63 45 (by omega))
                      have hcl685 := PI.close v666p (by decide) (f := (v13 - 1)) (by omega) ((fr667 85 _ rfl).trans v14e) (by omega) u676 (by omega)
                      have hcl685d := hcl685.2.2.1
                      have hcl685q := PI.deep hcl685.1
                      refine s_aload_n kx_197_570 rfl ?_
                      refine s_dup kx_197_571 rfl ?_
                      refine r_getI (k := 63) (f := 43) kx_197_572 kp_197_143 (tk_63 hT) kf_12_43 (fun _ => rfl) (rg_63_43 hI676) (fun v686 v686e v686a v686b => ?_)
                      refine s_iconst (v := 1) kx_197_575 (by decide) ?_
                      refine r_sub kx_197_576 ⟨by omega, by omega⟩ ?_
                      have hcl685e := PI.e_le hcl685.1
                      refine r_put (k := 63) (f := 43) kx_197_577 kp_197_143 (tk_63 hT) kf_12_43 rfl (by decide) (by decide) hI676 (ru_63_43 (by omega) (by omega)) (fun M687 hI687 u687 => ?_)
                      have hFm687 := hFm676.up u687 rfl
                      have tr688 := (u687.2 63 3 (by omega))
                      have tr689 := (u687.2 63 4 (by omega))
                      have tr690 := (u687.2 63 5 (by omega))
                      have tr691 := (u687.2 63 9 (by omega))
                      have tr692 := (u687.2 63 35 (by omega))
                      have tr693 := (u687.2 63 42 (by omega))
                      have tr694 := u687.1
                      have tr695 := (u687.2 63 45 (by omega))
                      have hP696 := (PI.opn (e' := 0) hcl685.1 u687 (by omega))
                      refine s_iload_n kx_197_580 rfl ?_
                      refine s_iconst (v := 4) kx_197_581 (by decide) ?_
                      refine s_icmp_ne (t := 596) kx_197_582 (by decide) (fun hc697 => ?_) (fun hc697 => ?_)
                      · have hP698 := PI.comp0 hP696 (by omega)
                        refine s_iload_n kx_197_596 rfl ?_
                        refine s_iconst (v := 5) kx_197_597 (by decide) ?_
                        refine s_icmp_ne (t := 613) kx_197_598 (by decide) (fun hc699 => ?_) (fun hc699 => ?_)
                        · refine s_aload_n kx_197_613 rfl ?_
                          refine s_callV2 (k := 63) (s1 := 1) (s2 := 0) (as := []) (rest := []) kx_197_614 kp_197_286 (Or.inl rfl) rfl (tk_63 hT) ki_180 kcl_180 rfl rfl (by decide) (m_180 (d := d) hT hI687) (kV (fun M701 hI701 fr701 v700p => ?_))
                          have hFm701 := hFm687.call fr701 rfl
                          have tr702 := (fr701 63 9 rfl)
                          have tr703 := (fr701 63 35 rfl)
                          have tr704 := (fr701 63 42 rfl)
                          have tr705 := (fr701 63 43 rfl)
                          have tr706 := (fr701 63 45 rfl)
                          have tr707 := rg_63_9 hI701
                          refine s_iconst (v := 1) kx_197_617 (by decide) ?_
                          have hk708 : M701 63 9 = v11 := ((fr701 63 9 rfl).trans ((u687.2 63 9 (by omega)).trans ((u676.2 63 9 (by omega)).trans ((fr667 63 9 rfl).trans v11e))))
                          exact s_iret kx_197_618 (Or.inr ⟨kq_197, by omega⟩) ⟨_, _, rfl, rfl, hI701, hFm701, ⟨by omega, by omega, (show LXp M701 from v700p.2), (by omega), (by omega), (Or.inr (Or.inr ⟨rfl, by omega, Or.inr ⟨((fr701 63 46 rfl).trans ((u687.2 63 46 (by omega)).trans ((u676.2 63 46 (by omega)).trans ((fr667 63 46 rfl).trans (fr2 63 46 rfl))))), (B0.fr (B0.up (show B0 M676 from hcl685.2.1) u687 (by decide)) fr701 rfl (fun _ => rfl)), PI.to7 (PI.fr hP698 fr701 rfl) (by omega)⟩⟩))⟩⟩
                        · refine s_aload_n kx_197_601 rfl ?_
                          refine r_getR (k := 63) (f := 38) (k2 := 86) kx_197_602 kp_197_127 (tk_63 hT) kf_12_38 (by decide) (rq_63_38 hI687) ?_
                          refine s_aload_n kx_197_605 rfl ?_
                          refine r_getK (k := 63) (f := 42) kx_197_606 kp_197_140 (tk_63 hT) kf_12_42 (fun _ => rfl) ((u687.2 63 42 (by omega)).trans u676.1) ?_
                          refine s_iconst (v := 1) kx_197_609 (by decide) ?_
                          refine r_sub kx_197_610 ⟨by omega, by omega⟩ ?_
                          refine s_iconst (v := 2) kx_197_611 (by decide) ?_
                          refine r_ast (k := 86) kx_197_612 (tk_86 hT) ⟨by omega, by omega⟩ hI687 (ru_86 (by omega) (by omega)) (fun M709 hI709 u709 => ?_)
                          have hFm709 := hFm687.up u709 rfl
                          have tr710 := (u709.2 63 3 (by omega))
                          have tr711 := (u709.2 63 4 (by omega))
                          have tr712 := (u709.2 63 5 (by omega))
                          have tr713 := (u709.2 63 9 (by omega))
                          have tr714 := (u709.2 63 35 (by omega))
                          have tr715 := (u709.2 63 42 (by omega))
                          have tr716 := (u709.2 63 43 (by omega))
                          have tr717 := (u709.2 63 45 (by omega))
                          refine s_aload_n kx_197_613 rfl ?_
                          refine s_callV2 (k := 63) (s1 := 1) (s2 := 0) (as := []) (rest := []) kx_197_614 kp_197_286 (Or.inl rfl) rfl (tk_63 hT) ki_180 kcl_180 rfl rfl (by decide) (m_180 (d := d) hT hI709) (kV (fun M719 hI719 fr719 v718p => ?_))
                          have hFm719 := hFm709.call fr719 rfl
                          have tr720 := (fr719 63 9 rfl)
                          have tr721 := (fr719 63 35 rfl)
                          have tr722 := (fr719 63 42 rfl)
                          have tr723 := (fr719 63 43 rfl)
                          have tr724 := (fr719 63 45 rfl)
                          have tr725 := rg_63_9 hI719
                          refine s_iconst (v := 1) kx_197_617 (by decide) ?_
                          have hk726 : M719 63 9 = v11 := ((fr719 63 9 rfl).trans ((u709.2 63 9 (by omega)).trans ((u687.2 63 9 (by omega)).trans ((u676.2 63 9 (by omega)).trans ((fr667 63 9 rfl).trans v11e)))))
                          exact s_iret kx_197_618 (Or.inr ⟨kq_197, by omega⟩) ⟨_, _, rfl, rfl, hI719, hFm719, ⟨by omega, by omega, (show LXp M719 from v718p.2), (by omega), (by omega), (Or.inr (Or.inr ⟨rfl, by omega, Or.inr ⟨((fr719 63 46 rfl).trans ((u709.2 63 46 (by omega)).trans ((u687.2 63 46 (by omega)).trans ((u676.2 63 46 (by omega)).trans ((fr667 63 46 rfl).trans (fr2 63 46 rfl)))))), (B0.fr (B0.up (B0.up (show B0 M676 from hcl685.2.1) u687 (by decide)) u709 ⟨by decide, Or.inl (by decide)⟩) fr719 rfl (fun _ => rfl)), PI.to7 (PI.fr (PI.phase hP698 (Or.inl (by decide)) (by omega) u709) fr719 rfl) (by omega)⟩⟩))⟩⟩
                      · refine s_aload_n kx_197_585 rfl ?_
                        refine s_aload_n kx_197_586 rfl ?_
                        refine r_getR (k := 63) (f := 40) (k2 := 88) kx_197_587 kp_197_134 (tk_63 hT) kf_12_40 (by decide) (rq_63_40 hI687) ?_
                        refine s_iload_n kx_197_590 rfl ?_
                        refine r_ald (k := 88) kx_197_591 (tk_88 hT) ⟨by omega, by omega⟩ (rg_88 hI687) (fun v727 v727e v727a v727b => ?_)
                        have hpr728 : v727 = M667 88 ((v13 - 1)).toNat := (v727e).symm.trans ((u687.2 88 _ (by omega)).trans (u676.2 88 _ (by omega)))
                        refine s_iconst (v := 0) kx_197_592 (by decide) ?_
                        refine s_callV2 (k := 63) (s1 := 3) (s2 := 0) (as := [(0, 0), (0, v727)]) (rest := []) kx_197_593 kp_197_352 (Or.inl rfl) rfl (tk_63 hT) ki_189 kcl_189 rfl rfl (by decide) (m_189 (d := d + 1) (sort := v727) (v_ := 0) hT hI687 (by omega) (by omega)) (kV (fun M730 hI730 fr730 v729p => ?_))
                        have hFm730 := hFm687.call fr730 rfl
                        have tr731 := (fr730 63 3 rfl)
                        have tr732 := (fr730 63 4 rfl)
                        have tr733 := (fr730 63 5 rfl)
                        have tr734 := (fr730 63 9 rfl)
                        have tr735 := (fr730 63 42 rfl)
                        have tr736 := (fr730 63 43 rfl)
                        have tr737 := (fr730 63 45 rfl)
                        have tr738 := rg_63_9 hI730
                        have hP739 := PI.code4 hP696 (by omega) (hcl685.2.2.2 (by omega)) fr730 v729p.1 (v729p.2.1.trans hpr728) v729p.2.2
                        refine s_iload_n kx_197_596 rfl ?_
                        refine s_iconst (v := 5) kx_197_597 (by decide) ?_
                        refine s_icmp_ne (t := 613) kx_197_598 (by decide) (fun hc740 => ?_) (fun hc740 => absurd hc740 (by omega))
                        refine s_aload_n kx_197_613 rfl ?_
                        refine s_callV2 (k := 63) (s1 := 1) (s2 := 0) (as := []) (rest := []) kx_197_614 kp_197_286 (Or.inl rfl) rfl (tk_63 hT) ki_180 kcl_180 rfl rfl (by decide) (m_180 (d := d) hT hI730) (kV (fun M742 hI742 fr742 v741p => ?_))
                        have hFm742 := hFm730.call fr742 rfl
                        have tr743 := (fr742 63 9 rfl)
                        have tr744 := (fr742 63 35 rfl)
                        have tr745 := (fr742 63 42 rfl)
                        have tr746 := (fr742 63 43 rfl)
                        have tr747 := (fr742 63 45 rfl)
                        have tr748 := rg_63_9 hI742
                        refine s_iconst (v := 1) kx_197_617 (by decide) ?_
                        have hk749 : M742 63 9 = v11 := ((fr742 63 9 rfl).trans ((fr730 63 9 rfl).trans ((u687.2 63 9 (by omega)).trans ((u676.2 63 9 (by omega)).trans ((fr667 63 9 rfl).trans v11e)))))
                        exact s_iret kx_197_618 (Or.inr ⟨kq_197, by omega⟩) ⟨_, _, rfl, rfl, hI742, hFm742, ⟨by omega, by omega, (show LXp M742 from v741p.2), (by omega), (by omega), (Or.inr (Or.inr ⟨rfl, by omega, Or.inr ⟨((fr742 63 46 rfl).trans ((fr730 63 46 rfl).trans ((u687.2 63 46 (by omega)).trans ((u676.2 63 46 (by omega)).trans ((fr667 63 46 rfl).trans (fr2 63 46 rfl)))))), (B0.fr (B0.fr (B0.up (show B0 M676 from hcl685.2.1) u687 (by decide)) fr730 rfl (fun _ => rfl)) fr742 rfl (fun _ => rfl)), PI.to7 (PI.fr hP739 fr742 rfl) (by omega)⟩⟩))⟩⟩
                    · replace v663p := v663p.resolve_left (by omega)
                      refine s_aload_n kx_197_537 rfl ?_
                      refine s_iconst (v := 1) kx_197_538 (by decide) ?_
                      refine s_aload_n kx_197_539 rfl ?_
                      refine r_getI (k := 63) (f := 4) kx_197_540 kp_197_23 (tk_63 hT) kf_12_4 (fun _ => rfl) (rg_63_4 hI2) (fun v750 v750e v750a v750b => ?_)
                      have v750z : M 63 4 = v750 := ((fr2 63 4 rfl)).symm.trans v750e
                      refine s_callV2 (k := 63) (s1 := 3) (s2 := 0) (as := [(0, v750), (0, 1)]) (rest := []) kx_197_543 kp_197_263 (Or.inl rfl) rfl (tk_63 hT) ki_176 kcl_176 rfl rfl (by decide) (m_176 (d := d + 1) (kind := 1) (place := v750) hT hI2 (by omega)) (kV (fun M752 hI752 fr752 v751p => ?_))
                      have hFm752 := hFm2.call fr752 rfl
                      have tr753 := (fr752 63 3 rfl)
                      have tr754 := (fr752 63 4 rfl)
                      have tr755 := (fr752 63 5 rfl)
                      have tr756 := (fr752 63 35 rfl)
                      have tr757 := (fr752 63 42 rfl)
                      have tr758 := (fr752 63 43 rfl)
                      have tr759 := (fr752 63 45 rfl)
                      have tr760 := rg_63_9 hI752
                      refine s_aload_n kx_197_546 rfl ?_
                      refine r_getI (k := 63) (f := 9) kx_197_547 kp_197_39 (tk_63 hT) kf_12_9 (fun _ => rfl) (rg_63_9 hI752) (fun v761 v761e v761a v761b => ?_)
                      refine s_if_le (t := 555) kx_197_550 (by decide) (fun hc762 => ?_) (fun hc762 => ?_)
                      · refine s_aload_n kx_197_555 rfl ?_
                        refine s_iconst (v := 1) kx_197_556 (by decide) ?_
                        refine s_callV2 (k := 63) (s1 := 2) (s2 := 0) (as := [(0, 1)]) (rest := []) kx_197_557 kp_197_370 (Or.inl rfl) rfl (tk_63 hT) ki_191 kcl_191 rfl rfl (by decide) (m_191 (d := d) (least := 1) hT hI752 (PI.fr (PI.fr hP fr2 rfl) fr752 rfl) (by omega) (by omega) (by omega)) (kV (fun M764 hI764 fr764 v763p => ?_))
                        have hFm764 := hFm752.call fr764 rfl
                        have tr765 := (fr764 63 3 rfl)
                        have tr766 := (fr764 63 4 rfl)
                        have tr767 := (fr764 63 5 rfl)
                        have tr768 := (fr764 63 9 rfl)
                        have tr769 := (fr764 63 42 rfl)
                        have tr770 := rg_63_9 hI764
                        have hd771 := PI.deep v763p
                        have hs772 := PI.small v763p (rg_63_43 hI764).2 (by decide)
                        have hs772a := hs772.1
                        have hs772b := hs772.2.1
                        have hs772c := rg_63_45 hI764
                        refine s_aload_n kx_197_560 rfl ?_
                        refine s_dup kx_197_561 rfl ?_
                        refine r_getK (k := 63) (f := 42) kx_197_562 kp_197_140 (tk_63 hT) kf_12_42 (fun _ => rfl) ((fr764 63 42 rfl).trans ((fr752 63 42 rfl).trans v13e)) ?_
                        refine s_iconst (v := 1) kx_197_565 (by decide) ?_
                        refine r_sub kx_197_566 ⟨by omega, by omega⟩ ?_
                        refine r_put (k := 63) (f := 42) kx_197_567 kp_197_140 (tk_63 hT) kf_12_42 rfl (by decide) (by decide) hI764 (ru_63_42 (by omega) (by omega)) (fun M773 hI773 u773 => ?_)
                        have hFm773 := hFm764.up u773 rfl
                        have tr774 := (u773.2 63 3 (by omega))
                        have tr775 := (u773.2 63 4 (by omega))
                        have tr776 := (u773.2 63 5 (by omega))
                        have tr777 := (u773.2 63 9 (by omega))
                        have tr778 := (u773.2 63 35 (by omega))
                        have tr779 := u773.1
                        have tr780 := (u773.2 63 43 (by omega))
                        have tr781 := (u773.2 63 45 (by omega))
                        have hcl782 := PI.close v763p (by decide) (f := (v13 - 1)) (by omega) ((fr764 85 _ rfl).trans ((fr752 85 _ rfl).trans v14e)) (by omega) u773 (by omega)
                        have hcl782d := hcl782.2.2.1
                        have hcl782q := PI.deep hcl782.1
                        refine s_aload_n kx_197_570 rfl ?_
                        refine s_dup kx_197_571 rfl ?_
                        refine r_getI (k := 63) (f := 43) kx_197_572 kp_197_143 (tk_63 hT) kf_12_43 (fun _ => rfl) (rg_63_43 hI773) (fun v783 v783e v783a v783b => ?_)
                        refine s_iconst (v := 1) kx_197_575 (by decide) ?_
                        refine r_sub kx_197_576 ⟨by omega, by omega⟩ ?_
                        have hcl782e := PI.e_le hcl782.1
                        refine r_put (k := 63) (f := 43) kx_197_577 kp_197_143 (tk_63 hT) kf_12_43 rfl (by decide) (by decide) hI773 (ru_63_43 (by omega) (by omega)) (fun M784 hI784 u784 => ?_)
                        have hFm784 := hFm773.up u784 rfl
                        have tr785 := (u784.2 63 3 (by omega))
                        have tr786 := (u784.2 63 4 (by omega))
                        have tr787 := (u784.2 63 5 (by omega))
                        have tr788 := (u784.2 63 9 (by omega))
                        have tr789 := (u784.2 63 35 (by omega))
                        have tr790 := (u784.2 63 42 (by omega))
                        have tr791 := u784.1
                        have tr792 := (u784.2 63 45 (by omega))
                        have hP793 := (PI.opn (e' := 0) hcl782.1 u784 (by omega))
                        refine s_iload_n kx_197_580 rfl ?_
                        refine s_iconst (v := 4) kx_197_581 (by decide) ?_
                        refine s_icmp_ne (t := 596) kx_197_582 (by decide) (fun hc794 => ?_) (fun hc794 => ?_)
                        · have hP795 := PI.comp0 hP793 (by omega)
                          refine s_iload_n kx_197_596 rfl ?_
                          refine s_iconst (v := 5) kx_197_597 (by decide) ?_
                          refine s_icmp_ne (t := 613) kx_197_598 (by decide) (fun hc796 => ?_) (fun hc796 => ?_)
                          · refine s_aload_n kx_197_613 rfl ?_
                            refine s_callV2 (k := 63) (s1 := 1) (s2 := 0) (as := []) (rest := []) kx_197_614 kp_197_286 (Or.inl rfl) rfl (tk_63 hT) ki_180 kcl_180 rfl rfl (by decide) (m_180 (d := d) hT hI784) (kV (fun M798 hI798 fr798 v797p => ?_))
                            have hFm798 := hFm784.call fr798 rfl
                            have tr799 := (fr798 63 9 rfl)
                            have tr800 := (fr798 63 35 rfl)
                            have tr801 := (fr798 63 42 rfl)
                            have tr802 := (fr798 63 43 rfl)
                            have tr803 := (fr798 63 45 rfl)
                            have tr804 := rg_63_9 hI798
                            refine s_iconst (v := 1) kx_197_617 (by decide) ?_
                            have hk805 : M798 63 9 = v761 := ((fr798 63 9 rfl).trans ((u784.2 63 9 (by omega)).trans ((u773.2 63 9 (by omega)).trans ((fr764 63 9 rfl).trans v761e))))
                            exact s_iret kx_197_618 (Or.inr ⟨kq_197, by omega⟩) ⟨_, _, rfl, rfl, hI798, hFm798, ⟨by omega, by omega, (show LXp M798 from v797p.2), (by omega), (by omega), (Or.inr (Or.inr ⟨rfl, by omega, Or.inr ⟨((fr798 63 46 rfl).trans ((u784.2 63 46 (by omega)).trans ((u773.2 63 46 (by omega)).trans ((fr764 63 46 rfl).trans ((fr752 63 46 rfl).trans (fr2 63 46 rfl)))))), (B0.fr (B0.up (show B0 M773 from hcl782.2.1) u784 (by decide)) fr798 rfl (fun _ => rfl)), PI.to7 (PI.fr hP795 fr798 rfl) (by omega)⟩⟩))⟩⟩
                          · refine s_aload_n kx_197_601 rfl ?_
                            refine r_getR (k := 63) (f := 38) (k2 := 86) kx_197_602 kp_197_127 (tk_63 hT) kf_12_38 (by decide) (rq_63_38 hI784) ?_
                            refine s_aload_n kx_197_605 rfl ?_
                            refine r_getK (k := 63) (f := 42) kx_197_606 kp_197_140 (tk_63 hT) kf_12_42 (fun _ => rfl) ((u784.2 63 42 (by omega)).trans u773.1) ?_
                            refine s_iconst (v := 1) kx_197_609 (by decide) ?_
                            refine r_sub kx_197_610 ⟨by omega, by omega⟩ ?_
                            refine s_iconst (v := 2) kx_197_611 (by decide) ?_
                            refine r_ast (k := 86) kx_197_612 (tk_86 hT) ⟨by omega, by omega⟩ hI784 (ru_86 (by omega) (by omega)) (fun M806 hI806 u806 => ?_)
                            have hFm806 := hFm784.up u806 rfl
                            have tr807 := (u806.2 63 3 (by omega))
                            have tr808 := (u806.2 63 4 (by omega))
                            have tr809 := (u806.2 63 5 (by omega))
                            have tr810 := (u806.2 63 9 (by omega))
                            have tr811 := (u806.2 63 35 (by omega))
                            have tr812 := (u806.2 63 42 (by omega))
                            have tr813 := (u806.2 63 43 (by omega))
                            have tr814 := (u806.2 63 45 (by omega))
                            refine s_aload_n kx_197_613 rfl ?_
                            refine s_callV2 (k := 63) (s1 := 1) (s2 := 0) (as := []) (rest := []) kx_197_614 kp_197_286 (Or.inl rfl) rfl (tk_63 hT) ki_180 kcl_180 rfl rfl (by decide) (m_180 (d := d) hT hI806) (kV (fun M816 hI816 fr816 v815p => ?_))
                            have hFm816 := hFm806.call fr816 rfl
                            have tr817 := (fr816 63 9 rfl)
                            have tr818 := (fr816 63 35 rfl)
                            have tr819 := (fr816 63 42 rfl)
                            have tr820 := (fr816 63 43 rfl)
                            have tr821 := (fr816 63 45 rfl)
                            have tr822 := rg_63_9 hI816
                            refine s_iconst (v := 1) kx_197_617 (by decide) ?_
                            have hk823 : M816 63 9 = v761 := ((fr816 63 9 rfl).trans ((u806.2 63 9 (by omega)).trans ((u784.2 63 9 (by omega)).trans ((u773.2 63 9 (by omega)).trans ((fr764 63 9 rfl).trans v761e)))))
                            exact s_iret kx_197_618 (Or.inr ⟨kq_197, by omega⟩) ⟨_, _, rfl, rfl, hI816, hFm816, ⟨by omega, by omega, (show LXp M816 from v815p.2), (by omega), (by omega), (Or.inr (Or.inr ⟨rfl, by omega, Or.inr ⟨((fr816 63 46 rfl).trans ((u806.2 63 46 (by omega)).trans ((u784.2 63 46 (by omega)).trans ((u773.2 63 46 (by omega)).trans ((fr764 63 46 rfl).trans ((fr752 63 46 rfl).trans (fr2 63 46 rfl))))))), (B0.fr (B0.up (B0.up (show B0 M773 from hcl782.2.1) u784 (by decide)) u806 ⟨by decide, Or.inl (by decide)⟩) fr816 rfl (fun _ => rfl)), PI.to7 (PI.fr (PI.phase hP795 (Or.inl (by decide)) (by omega) u806) fr816 rfl) (by omega)⟩⟩))⟩⟩
                        · refine s_aload_n kx_197_585 rfl ?_
                          refine s_aload_n kx_197_586 rfl ?_
                          refine r_getR (k := 63) (f := 40) (k2 := 88) kx_197_587 kp_197_134 (tk_63 hT) kf_12_40 (by decide) (rq_63_40 hI784) ?_
                          refine s_iload_n kx_197_590 rfl ?_
                          refine r_ald (k := 88) kx_197_591 (tk_88 hT) ⟨by omega, by omega⟩ (rg_88 hI784) (fun v824 v824e v824a v824b => ?_)
                          have hpr825 : v824 = M764 88 ((v13 - 1)).toNat := (v824e).symm.trans ((u784.2 88 _ (by omega)).trans (u773.2 88 _ (by omega)))
                          refine s_iconst (v := 0) kx_197_592 (by decide) ?_
                          refine s_callV2 (k := 63) (s1 := 3) (s2 := 0) (as := [(0, 0), (0, v824)]) (rest := []) kx_197_593 kp_197_352 (Or.inl rfl) rfl (tk_63 hT) ki_189 kcl_189 rfl rfl (by decide) (m_189 (d := d + 1) (sort := v824) (v_ := 0) hT hI784 (by omega) (by omega)) (kV (fun M827 hI827 fr827 v826p => ?_))
                          have hFm827 := hFm784.call fr827 rfl
                          have tr828 := (fr827 63 3 rfl)
                          have tr829 := (fr827 63 4 rfl)
                          have tr830 := (fr827 63 5 rfl)
                          have tr831 := (fr827 63 9 rfl)
                          have tr832 := (fr827 63 42 rfl)
                          have tr833 := (fr827 63 43 rfl)
                          have tr834 := (fr827 63 45 rfl)
                          have tr835 := rg_63_9 hI827
                          have hP836 := PI.code4 hP793 (by omega) (hcl782.2.2.2 (by omega)) fr827 v826p.1 (v826p.2.1.trans hpr825) v826p.2.2
                          refine s_iload_n kx_197_596 rfl ?_
                          refine s_iconst (v := 5) kx_197_597 (by decide) ?_
                          refine s_icmp_ne (t := 613) kx_197_598 (by decide) (fun hc837 => ?_) (fun hc837 => absurd hc837 (by omega))
                          refine s_aload_n kx_197_613 rfl ?_
                          refine s_callV2 (k := 63) (s1 := 1) (s2 := 0) (as := []) (rest := []) kx_197_614 kp_197_286 (Or.inl rfl) rfl (tk_63 hT) ki_180 kcl_180 rfl rfl (by decide) (m_180 (d := d) hT hI827) (kV (fun M839 hI839 fr839 v838p => ?_))
                          have hFm839 := hFm827.call fr839 rfl
                          have tr840 := (fr839 63 9 rfl)
                          have tr841 := (fr839 63 35 rfl)
                          have tr842 := (fr839 63 42 rfl)
                          have tr843 := (fr839 63 43 rfl)
                          have tr844 := (fr839 63 45 rfl)
                          have tr845 := rg_63_9 hI839
                          refine s_iconst (v := 1) kx_197_617 (by decide) ?_
                          have hk846 : M839 63 9 = v761 := ((fr839 63 9 rfl).trans ((fr827 63 9 rfl).trans ((u784.2 63 9 (by omega)).trans ((u773.2 63 9 (by omega)).trans ((fr764 63 9 rfl).trans v761e)))))
                          exact s_iret kx_197_618 (Or.inr ⟨kq_197, by omega⟩) ⟨_, _, rfl, rfl, hI839, hFm839, ⟨by omega, by omega, (show LXp M839 from v838p.2), (by omega), (by omega), (Or.inr (Or.inr ⟨rfl, by omega, Or.inr ⟨((fr839 63 46 rfl).trans ((fr827 63 46 rfl).trans ((u784.2 63 46 (by omega)).trans ((u773.2 63 46 (by omega)).trans ((fr764 63 46 rfl).trans ((fr752 63 46 rfl).trans (fr2 63 46 rfl))))))), (B0.fr (B0.fr (B0.up (show B0 M773 from hcl782.2.1) u784 (by decide)) fr827 rfl (fun _ => rfl)) fr839 rfl (fun _ => rfl)), PI.to7 (PI.fr hP836 fr839 rfl) (by omega)⟩⟩))⟩⟩
                      · refine s_iconst (v := 0) kx_197_553 (by decide) ?_
                        have hk847 : M752 63 4 = v750 := ((fr752 63 4 rfl).trans v750e)
                        have hk848 : M752 63 9 = v761 := v761e
                        exact s_iret kx_197_554 (Or.inr ⟨kq_197, by omega⟩) ⟨_, _, rfl, rfl, hI752, hFm752, ⟨by omega, by omega, (LXp.fr (LXp.fr hX fr2 rfl) fr752 rfl), (by omega), (by omega), (Or.inl (by omega))⟩⟩
                  refine s_icmp_ne (t := 529) kx_197_521 (by decide) (fun hc656 => ?_) (fun hc656 => ?_)
                  · have hJ657 : Fr fS_197_j521 M2 M2 := Fr.refl
                    refine s_bipush (v := 41) kx_197_529 (by decide) ?_
                    exact cP.wk (lS1 rfl (lS1 rfl (lS1 rfl lS0))) (jn660 41 (by omega) (by omega))
                  · have hJ658 : Fr fS_197_j521 M2 M2 := Fr.refl
                    refine s_bipush (v := 93) kx_197_524 (by decide) ?_
                    refine s_goto (t := 531) kx_197_526 (by decide) ?_
                    exact cP.wk (lS1 rfl (lS1 rfl (lS1 rfl lS0))) (jn660 93 (by omega) (by omega))
                · refine s_aload_n kx_197_452 rfl ?_
                  refine s_bipush (v := 44) kx_197_453 (by decide) ?_
                  refine s_callV2 (k := 63) (s1 := 2) (s2 := 0) (as := [(0, 44)]) (rest := []) kx_197_455 kp_197_283 (Or.inl rfl) rfl (tk_63 hT) ki_181 kcl_181 rfl rfl (by decide) (m_181 (d := d + 1) (c := 44) hT hI2) (kF (fun v849 v849p => ?_))
                  refine s_if_ne (t := 470) kx_197_458 (by decide) (fun hc850 => ?_) (fun hc850 => ?_)
                  · replace v849p := v849p.resolve_right (by omega)
                    refine s_aload_n kx_197_470 rfl ?_
                    refine r_getK (k := 63) (f := 9) kx_197_471 kp_197_39 (tk_63 hT) kf_12_9 (fun _ => rfl) v11e ?_
                    refine s_if_le (t := 479) kx_197_474 (by decide) (fun hc851 => ?_) (fun hc851 => absurd hc851 (by omega))
                    refine s_aload_n kx_197_479 rfl ?_
                    refine s_iconst (v := 1) kx_197_480 (by decide) ?_
                    refine s_callV2 (k := 63) (s1 := 2) (s2 := 0) (as := [(0, 1)]) (rest := []) kx_197_481 kp_197_370 (Or.inl rfl) rfl (tk_63 hT) ki_191 kcl_191 rfl rfl (by decide) (m_191 (d := d) (least := 1) hT hI2 (PI.fr hP fr2 rfl) (by omega) (by omega) (by omega)) (kV (fun M853 hI853 fr853 v852p => ?_))
                    have hFm853 := hFm2.call fr853 rfl
                    have tr854 := (fr853 63 3 rfl)
                    have tr855 := (fr853 63 4 rfl)
                    have tr856 := (fr853 63 5 rfl)
                    have tr857 := (fr853 63 9 rfl)
                    have tr858 := (fr853 63 42 rfl)
                    have tr859 := rg_63_9 hI853
                    have hd860 := PI.deep v852p
                    have hs861 := PI.small v852p (rg_63_43 hI853).2 (by decide)
                    have hs861a := hs861.1
                    have hs861b := hs861.2.1
                    have hs861c := rg_63_45 hI853
                    have hk85862 : M853 85 ((v13 - 1)).toNat = v14 := ((fr853 85 _ rfl).trans v14e)
                    refine s_aload_n kx_197_484 rfl ?_
                    refine r_getR (k := 63) (f := 37) (k2 := 85) kx_197_485 kp_197_124 (tk_63 hT) kf_12_37 (by decide) (rq_63_37 hI853) ?_
                    refine s_iload_n kx_197_488 rfl ?_
                    refine s_iload_n kx_197_489 rfl ?_
                    refine s_iconst (v := 3) kx_197_490 (by decide) ?_
                    refine s_icmp_ne (t := 498) kx_197_491 (by decide) (fun hc863 => ?_) (fun hc863 => absurd hc863 (by omega))
                    refine s_iconst (v := 3) kx_197_498 (by decide) ?_
                    refine r_ast (k := 85) kx_197_499 (tk_85 hT) ⟨by omega, by omega⟩ hI853 (ru_85 (by omega) (by omega)) (fun M864 hI864 u864 => ?_)
                    have hFm864 := hFm853.up u864 rfl
                    have tr865 := (u864.2 63 3 (by omega))
                    have tr866 := (u864.2 63 4 (by omega))
                    have tr867 := (u864.2 63 5 (by omega))
                    have tr868 := (u864.2 63 9 (by omega))
                    have tr869 := (u864.2 63 35 (by omega))
                    have tr870 := (u864.2 63 42 (by omega))
                    have tr871 := (u864.2 63 43 (by omega))
                    have tr872 := (u864.2 63 45 (by omega))
                    refine s_aload_n kx_197_500 rfl ?_
                    refine r_getR (k := 63) (f := 38) (k2 := 86) kx_197_501 kp_197_127 (tk_63 hT) kf_12_38 (by decide) (rq_63_38 hI864) ?_
                    refine s_iload_n kx_197_504 rfl ?_
                    refine s_iconst (v := 0) kx_197_505 (by decide) ?_
                    refine r_ast (k := 86) kx_197_506 (tk_86 hT) ⟨by omega, by omega⟩ hI864 (ru_86 (by omega) (by omega)) (fun M873 hI873 u873 => ?_)
                    have hFm873 := hFm864.up u873 rfl
                    have tr874 := (u873.2 63 3 (by omega))
                    have tr875 := (u873.2 63 4 (by omega))
                    have tr876 := (u873.2 63 5 (by omega))
                    have tr877 := (u873.2 63 9 (by omega))
                    have tr878 := (u873.2 63 35 (by omega))
                    have tr879 := (u873.2 63 42 (by omega))
                    have tr880 := (u873.2 63 43 (by omega))
                    have tr881 := (u873.2 63 45 (by omega))
                    refine s_aload_n kx_197_507 rfl ?_
                    refine s_callV2 (k := 63) (s1 := 1) (s2 := 0) (as := []) (rest := []) kx_197_508 kp_197_286 (Or.inl rfl) rfl (tk_63 hT) ki_180 kcl_180 rfl rfl (by decide) (m_180 (d := d) hT hI873) (kV (fun M883 hI883 fr883 v882p => ?_))
                    have hFm883 := hFm873.call fr883 rfl
                    have tr884 := (fr883 63 9 rfl)
                    have tr885 := (fr883 63 35 rfl)
                    have tr886 := (fr883 63 42 rfl)
                    have tr887 := (fr883 63 43 rfl)
                    have tr888 := (fr883 63 45 rfl)
                    have tr889 := rg_63_9 hI883
                    refine s_aload_n kx_197_511 rfl ?_
                    refine s_iconst (v := 0) kx_197_512 (by decide) ?_
                    refine r_put (k := 63) (f := 46) kx_197_513 kp_197_152 (tk_63 hT) kf_12_46 rfl (by decide) (by decide) hI883 (ru_63_46 (by omega) (by omega)) (fun M890 hI890 u890 => ?_)
                    have hFm890 := hFm883.up u890 rfl
                    have tr891 := (u890.2 63 3 (by omega))
                    have tr892 := (u890.2 63 4 (by omega))
                    have tr893 := (u890.2 63 5 (by omega))
                    have tr894 := (u890.2 63 9 (by omega))
                    have tr895 := (u890.2 63 35 (by omega))
                    have tr896 := (u890.2 63 42 (by omega))
                    have tr897 := (u890.2 63 43 (by omega))
                    have tr898 := (u890.2 63 45 (by omega))
                    refine s_iconst (v := 1) kx_197_516 (by decide) ?_
                    have hk899 : M890 63 9 = v11 := ((u890.2 63 9 (by omega)).trans ((fr883 63 9 rfl).trans ((u873.2 63 9 (by omega)).trans ((u864.2 63 9 (by omega)).trans ((fr853 63 9 rfl).trans v11e)))))
                    exact s_iret kx_197_517 (Or.inr ⟨kq_197, by omega⟩) ⟨_, _, rfl, rfl, hI890, hFm890, ⟨by omega, by omega, (LXp.up (show LXp M883 from v882p.2) u890 (by decide)), (by omega), (by omega), (Or.inr (Or.inr ⟨rfl, by omega, Or.inl ⟨u890.1, PI.to7 (PI.fr (PI.fr (PI.phase (PI.comma v852p (by omega) (by omega) u864) (Or.inr (by omega)) (by omega) u873) fr883 rfl) (Up.fr u890) rfl) (by omega)⟩⟩))⟩⟩
                  · replace v849p := v849p.resolve_left (by omega)
                    refine s_aload_n kx_197_461 rfl ?_
                    refine s_iconst (v := 1) kx_197_462 (by decide) ?_
                    refine s_aload_n kx_197_463 rfl ?_
                    refine r_getI (k := 63) (f := 4) kx_197_464 kp_197_23 (tk_63 hT) kf_12_4 (fun _ => rfl) (rg_63_4 hI2) (fun v900 v900e v900a v900b => ?_)
                    have v900z : M 63 4 = v900 := ((fr2 63 4 rfl)).symm.trans v900e
                    refine s_callV2 (k := 63) (s1 := 3) (s2 := 0) (as := [(0, v900), (0, 1)]) (rest := []) kx_197_467 kp_197_263 (Or.inl rfl) rfl (tk_63 hT) ki_176 kcl_176 rfl rfl (by decide) (m_176 (d := d + 1) (kind := 1) (place := v900) hT hI2 (by omega)) (kV (fun M902 hI902 fr902 v901p => ?_))
                    have hFm902 := hFm2.call fr902 rfl
                    have tr903 := (fr902 63 3 rfl)
                    have tr904 := (fr902 63 4 rfl)
                    have tr905 := (fr902 63 5 rfl)
                    have tr906 := (fr902 63 35 rfl)
                    have tr907 := (fr902 63 42 rfl)
                    have tr908 := (fr902 63 43 rfl)
                    have tr909 := (fr902 63 45 rfl)
                    have tr910 := rg_63_9 hI902
                    refine s_aload_n kx_197_470 rfl ?_
                    refine r_getI (k := 63) (f := 9) kx_197_471 kp_197_39 (tk_63 hT) kf_12_9 (fun _ => rfl) (rg_63_9 hI902) (fun v911 v911e v911a v911b => ?_)
                    refine s_if_le (t := 479) kx_197_474 (by decide) (fun hc912 => ?_) (fun hc912 => ?_)
                    · refine s_aload_n kx_197_479 rfl ?_
                      refine s_iconst (v := 1) kx_197_480 (by decide) ?_
                      refine s_callV2 (k := 63) (s1 := 2) (s2 := 0) (as := [(0, 1)]) (rest := []) kx_197_481 kp_197_370 (Or.inl rfl) rfl (tk_63 hT) ki_191 kcl_191 rfl rfl (by decide) (m_191 (d := d) (least := 1) hT hI902 (PI.fr (PI.fr hP fr2 rfl) fr902 rfl) (by omega) (by omega) (by omega)) (kV (fun M914 hI914 fr914 v913p => ?_))
                      have hFm914 := hFm902.call fr914 rfl
                      have tr915 := (fr914 63 3 rfl)
                      have tr916 := (fr914 63 4 rfl)
                      have tr917 := (fr914 63 5 rfl)
                      have tr918 := (fr914 63 9 rfl)
                      have tr919 := (fr914 63 42 rfl)
                      have tr920 := rg_63_9 hI914
                      have hd921 := PI.deep v913p
                      have hs922 := PI.small v913p (rg_63_43 hI914).2 (by decide)
                      have hs922a := hs922.1
                      have hs922b := hs922.2.1
                      have hs922c := rg_63_45 hI914
                      have hk85923 : M914 85 ((v13 - 1)).toNat = v14 := ((fr914 85 _ rfl).trans ((fr902 85 _ rfl).trans v14e))
                      refine s_aload_n kx_197_484 rfl ?_
                      refine r_getR (k := 63) (f := 37) (k2 := 85) kx_197_485 kp_197_124 (tk_63 hT) kf_12_37 (by decide) (rq_63_37 hI914) ?_
                      refine s_iload_n kx_197_488 rfl ?_
                      refine s_iload_n kx_197_489 rfl ?_
                      refine s_iconst (v := 3) kx_197_490 (by decide) ?_
                      refine s_icmp_ne (t := 498) kx_197_491 (by decide) (fun hc924 => ?_) (fun hc924 => absurd hc924 (by omega))
                      refine s_iconst (v := 3) kx_197_498 (by decide) ?_
                      refine r_ast (k := 85) kx_197_499 (tk_85 hT) ⟨by omega, by omega⟩ hI914 (ru_85 (by omega) (by omega)) (fun M925 hI925 u925 => ?_)
                      have hFm925 := hFm914.up u925 rfl
                      have tr926 := (u925.2 63 3 (by omega))
                      have tr927 := (u925.2 63 4 (by omega))
                      have tr928 := (u925.2 63 5 (by omega))
                      have tr929 := (u925.2 63 9 (by omega))
                      have tr930 := (u925.2 63 35 (by omega))
                      have tr931 := (u925.2 63 42 (by omega))
                      have tr932 := (u925.2 63 43 (by omega))
                      have tr933 := (u925.2 63 45 (by omega))
                      refine s_aload_n kx_197_500 rfl ?_
                      refine r_getR (k := 63) (f := 38) (k2 := 86) kx_197_501 kp_197_127 (tk_63 hT) kf_12_38 (by decide) (rq_63_38 hI925) ?_
                      refine s_iload_n kx_197_504 rfl ?_
                      refine s_iconst (v := 0) kx_197_505 (by decide) ?_
                      refine r_ast (k := 86) kx_197_506 (tk_86 hT) ⟨by omega, by omega⟩ hI925 (ru_86 (by omega) (by omega)) (fun M934 hI934 u934 => ?_)
                      have hFm934 := hFm925.up u934 rfl
                      have tr935 := (u934.2 63 3 (by omega))
                      have tr936 := (u934.2 63 4 (by omega))
                      have tr937 := (u934.2 63 5 (by omega))
                      have tr938 := (u934.2 63 9 (by omega))
                      have tr939 := (u934.2 63 35 (by omega))
                      have tr940 := (u934.2 63 42 (by omega))
                      have tr941 := (u934.2 63 43 (by omega))
                      have tr942 := (u934.2 63 45 (by omega))
                      refine s_aload_n kx_197_507 rfl ?_
                      refine s_callV2 (k := 63) (s1 := 1) (s2 := 0) (as := []) (rest := []) kx_197_508 kp_197_286 (Or.inl rfl) rfl (tk_63 hT) ki_180 kcl_180 rfl rfl (by decide) (m_180 (d := d) hT hI934) (kV (fun M944 hI944 fr944 v943p => ?_))
                      have hFm944 := hFm934.call fr944 rfl
                      have tr945 := (fr944 63 9 rfl)
                      have tr946 := (fr944 63 35 rfl)
                      have tr947 := (fr944 63 42 rfl)
                      have tr948 := (fr944 63 43 rfl)
                      have tr949 := (fr944 63 45 rfl)
                      have tr950 := rg_63_9 hI944
                      refine s_aload_n kx_197_511 rfl ?_
                      refine s_iconst (v := 0) kx_197_512 (by decide) ?_
                      refine r_put (k := 63) (f := 46) kx_197_513 kp_197_152 (tk_63 hT) kf_12_46 rfl (by decide) (by decide) hI944 (ru_63_46 (by omega) (by omega)) (fun M951 hI951 u951 => ?_)
                      have hFm951 := hFm944.up u951 rfl
                      have tr952 := (u951.2 63 3 (by omega))
                      have tr953 := (u951.2 63 4 (by omega))
                      have tr954 := (u951.2 63 5 (by omega))
                      have tr955 := (u951.2 63 9 (by omega))
                      have tr956 := (u951.2 63 35 (by omega))
                      have tr957 := (u951.2 63 42 (by omega))
                      have tr958 := (u951.2 63 43 (by omega))
                      have tr959 := (u951.2 63 45 (by omega))
                      refine s_iconst (v := 1) kx_197_516 (by decide) ?_
                      have hk960 : M951 63 9 = v911 := ((u951.2 63 9 (by omega)).trans ((fr944 63 9 rfl).trans ((u934.2 63 9 (by omega)).trans ((u925.2 63 9 (by omega)).trans ((fr914 63 9 rfl).trans v911e)))))
                      exact s_iret kx_197_517 (Or.inr ⟨kq_197, by omega⟩) ⟨_, _, rfl, rfl, hI951, hFm951, ⟨by omega, by omega, (LXp.up (show LXp M944 from v943p.2) u951 (by decide)), (by omega), (by omega), (Or.inr (Or.inr ⟨rfl, by omega, Or.inl ⟨u951.1, PI.to7 (PI.fr (PI.fr (PI.phase (PI.comma v913p (by omega) (by omega) u925) (Or.inr (by omega)) (by omega) u934) fr944 rfl) (Up.fr u951) rfl) (by omega)⟩⟩))⟩⟩
                    · refine s_iconst (v := 0) kx_197_477 (by decide) ?_
                      have hk961 : M902 63 4 = v900 := ((fr902 63 4 rfl).trans v900e)
                      have hk962 : M902 63 9 = v911 := v911e
                      exact s_iret kx_197_478 (Or.inr ⟨kq_197, by omega⟩) ⟨_, _, rfl, rfl, hI902, hFm902, ⟨by omega, by omega, (LXp.fr (LXp.fr hX fr2 rfl) fr902 rfl), (by omega), (by omega), (Or.inl (by omega))⟩⟩
            · refine s_aload_n kx_197_427 rfl ?_
              refine r_getK (k := 63) (f := 9) kx_197_428 kp_197_39 (tk_63 hT) kf_12_9 (fun _ => rfl) v11e ?_
              refine s_if_ne (t := 439) kx_197_431 (by decide) (fun hc963 => absurd hc963 (by omega)) (fun hc963 => ?_)
              refine s_aload_n kx_197_434 rfl ?_
              refine s_iconst (v := 1) kx_197_435 (by decide) ?_
              refine s_callV2 (k := 63) (s1 := 2) (s2 := 0) (as := [(0, 1)]) (rest := []) kx_197_436 kp_197_370 (Or.inl rfl) rfl (tk_63 hT) ki_191 kcl_191 rfl rfl (by decide) (m_191 (d := d) (least := 1) hT hI2 (PI.fr hP fr2 rfl) (by omega) (by omega) (by omega)) (kV (fun M965 hI965 fr965 v964p => ?_))
              have hFm965 := hFm2.call fr965 rfl
              have tr966 := (fr965 63 3 rfl)
              have tr967 := (fr965 63 4 rfl)
              have tr968 := (fr965 63 5 rfl)
              have tr969 := (fr965 63 9 rfl)
              have tr970 := (fr965 63 42 rfl)
              have tr971 := rg_63_9 hI965
              refine s_iconst (v := 0) kx_197_439 (by decide) ?_
              have hk972 : M965 63 9 = v11 := ((fr965 63 9 rfl).trans v11e)
              exact s_iret kx_197_440 (Or.inr ⟨kq_197, by omega⟩) ⟨_, _, rfl, rfl, hI965, hFm965, ⟨by omega, by omega, (LXp.fr (LXp.fr hX fr2 rfl) fr965 rfl), (by omega), (by omega), (if h9 : 1 ≤ M965 63 9 then Or.inl h9 else Or.inr (Or.inl ⟨rfl, PI.to7 v964p (by omega)⟩))⟩⟩
          · replace v535p := v535p.resolve_right (by omega)
            refine s_aload_n kx_197_309 rfl ?_
            refine r_getR (k := 63) (f := 38) (k2 := 86) kx_197_310 kp_197_127 (tk_63 hT) kf_12_38 (by decide) (rq_63_38 hI2) ?_
            refine s_iload_n kx_197_313 rfl ?_
            refine r_aldK (k := 86) kx_197_314 (tk_86 hT) ⟨by omega, by omega⟩ v16e ?_
            refine s_if_ne (t := 327) kx_197_315 (by decide) (fun hc973 => ?_) (fun hc973 => absurd hc973 (by omega))
            refine s_aload_n kx_197_327 rfl ?_
            refine r_getK (k := 63) (f := 9) kx_197_328 kp_197_39 (tk_63 hT) kf_12_9 (fun _ => rfl) v11e ?_
            refine s_if_le (t := 336) kx_197_331 (by decide) (fun hc974 => ?_) (fun hc974 => absurd hc974 (by omega))
            refine s_aload_n kx_197_336 rfl ?_
            refine s_ldc2_w kx_197_337 kp_197_327 ?_
            refine s_callV2 (k := 63) (s1 := 3) (s2 := 0) (as := [(1, 6385252)]) (rest := []) kx_197_340 kp_197_361 (Or.inl rfl) rfl (tk_63 hT) ki_182 kcl_182 rfl rfl (by decide) (m_182 (d := d + 1) (w := 6385252) hT hI2) (kF (fun v975 v975p => ?_))
            refine s_istore kx_197_343 km_197_4 rfl ?_
            refine s_aload_n kx_197_345 rfl ?_
            refine s_iload kx_197_346 rfl ?_
            have jn980 : ∀ (y979 : Int), (1 ≤ y979) → (y979 ≤ 2) → ((y979 = 2 ∧ v975 ≠ 0) ∨ (y979 = 1 ∧ v975 = 0)) → cP k_P xs Ln (d + 2) 197 356 [(0, rf 63), (1, (0, (v13 - 1))), (4, (0, v975))] [(0, y979), rf 63] (T, M2) (qW T M fS_197_m 0 (fun v M1 => 0 ≤ v ∧ v ≤ 1 ∧ (LXp M1 ∧ M 63 4 ≤ M1 63 4 ∧ M 63 9 ≤ M1 63 9 ∧ (GOd M M1 c a v)))) := by
              intro y979 a981 a982 a983
              refine s_callV2 (k := 63) (s1 := 2) (s2 := 0) (as := [(0, y979)]) (rest := []) kx_197_356 kp_197_370 (Or.inl rfl) rfl (tk_63 hT) ki_191 kcl_191 rfl rfl (by decide) (m_191 (d := d) (least := y979) hT hI2 (PI.fr hP fr2 rfl) (by omega) (by omega) (by omega)) (kV (fun M985 hI985 fr985 v984p => ?_))
              have hFm985 := hFm2.call fr985 rfl
              have tr986 := (fr985 63 3 rfl)
              have tr987 := (fr985 63 4 rfl)
              have tr988 := (fr985 63 5 rfl)
              have tr989 := (fr985 63 9 rfl)
              have tr990 := (fr985 63 42 rfl)
              have tr991 := rg_63_9 hI985
              have hd992 := PI.deep v984p
              have hs993 := PI.small v984p (rg_63_43 hI985).2 (by decide)
              have hs993a := hs993.1
              have hs993b := hs993.2.1
              have hs993c := rg_63_45 hI985
              refine s_aload_n kx_197_359 rfl ?_
              refine s_iload kx_197_360 rfl ?_
              have jn998 : ∀ (y997 : Int), (20 ≤ y997) → (y997 ≤ 21) → ((y997 = 20 ∧ v975 ≠ 0) ∨ (y997 = 21 ∧ v975 = 0)) → cP k_P xs Ln (d + 2) 197 372 [(0, rf 63), (1, (0, (v13 - 1)))] [(0, y997), rf 63] (T, M985) (qW T M fS_197_m 0 (fun v M1 => 0 ≤ v ∧ v ≤ 1 ∧ (LXp M1 ∧ M 63 4 ≤ M1 63 4 ∧ M 63 9 ≤ M1 63 9 ∧ (GOd M M1 c a v)))) := by
                intro y997 a999 a1000 a1001
                refine s_callV2 (k := 63) (s1 := 2) (s2 := 0) (as := [(0, y997)]) (rest := []) kx_197_372 kp_197_364 (Or.inl rfl) rfl (tk_63 hT) ki_192 kcl_192 rfl rfl (by decide) (m_192 (d := d + 1) (op := y997) hT hI985 (by omega) (by omega)) (kV (fun M1003 hI1003 fr1003 v1002p => ?_))
                have hFm1003 := hFm985.call fr1003 rfl
                have tr1004 := (fr1003 63 3 rfl)
                have tr1005 := (fr1003 63 4 rfl)
                have tr1006 := (fr1003 63 5 rfl)
                have tr1007 := (fr1003 63 9 rfl)
                have tr1008 := (fr1003 63 35 rfl)
                have tr1009 := (fr1003 63 42 rfl)
                have tr1010 := (fr1003 63 43 rfl)
                have tr1011 := rg_63_9 hI1003
                have hP1012 := PI.holdL v984p (B0.fr (B0.fr hB fr2 rfl (fun _ => rfl)) fr985 rfl (fun _ => rfl)) (by omega) fr1003 v1002p.1 v1002p.2.1 v1002p.2.2
                refine s_aload_n kx_197_375 rfl ?_
                refine r_getR (k := 63) (f := 38) (k2 := 86) kx_197_376 kp_197_127 (tk_63 hT) kf_12_38 (by decide) (rq_63_38 hI1003) ?_
                refine s_iload_n kx_197_379 rfl ?_
                refine s_iconst (v := 0) kx_197_380 (by decide) ?_
                refine r_ast (k := 86) kx_197_381 (tk_86 hT) ⟨by omega, by omega⟩ hI1003 (ru_86 (by omega) (by omega)) (fun M1013 hI1013 u1013 => ?_)
                have hFm1013 := hFm1003.up u1013 rfl
                have tr1014 := (u1013.2 63 3 (by omega))
                have tr1015 := (u1013.2 63 4 (by omega))
                have tr1016 := (u1013.2 63 5 (by omega))
                have tr1017 := (u1013.2 63 9 (by omega))
                have tr1018 := (u1013.2 63 35 (by omega))
                have tr1019 := (u1013.2 63 42 (by omega))
                have tr1020 := (u1013.2 63 43 (by omega))
                have tr1021 := (u1013.2 63 45 (by omega))
                refine s_aload_n kx_197_382 rfl ?_
                refine r_getR (k := 63) (f := 39) (k2 := 87) kx_197_383 kp_197_130 (tk_63 hT) kf_12_39 (by decide) (rq_63_39 hI1013) ?_
                refine s_iload_n kx_197_386 rfl ?_
                refine s_iconst (v := 1) kx_197_387 (by decide) ?_
                refine r_bast (k := 87) kx_197_388 (tk_87 hT) ⟨by omega, by omega⟩ (by omega) hI1013 (ru_87 (by omega) (by omega)) (fun M1022 hI1022 u1022 => ?_)
                have hFm1022 := hFm1013.up u1022 rfl
                have tr1023 := (u1022.2 63 3 (by omega))
                have tr1024 := (u1022.2 63 4 (by omega))
                have tr1025 := (u1022.2 63 5 (by omega))
                have tr1026 := (u1022.2 63 9 (by omega))
                have tr1027 := (u1022.2 63 35 (by omega))
                have tr1028 := (u1022.2 63 42 (by omega))
                have tr1029 := (u1022.2 63 43 (by omega))
                have tr1030 := (u1022.2 63 45 (by omega))
                refine s_aload_n kx_197_389 rfl ?_
                refine s_callV2 (k := 63) (s1 := 1) (s2 := 0) (as := []) (rest := []) kx_197_390 kp_197_286 (Or.inl rfl) rfl (tk_63 hT) ki_180 kcl_180 rfl rfl (by decide) (m_180 (d := d) hT hI1022) (kV (fun M1032 hI1032 fr1032 v1031p => ?_))
                have hFm1032 := hFm1022.call fr1032 rfl
                have tr1033 := (fr1032 63 9 rfl)
                have tr1034 := (fr1032 63 35 rfl)
                have tr1035 := (fr1032 63 42 rfl)
                have tr1036 := (fr1032 63 43 rfl)
                have tr1037 := (fr1032 63 45 rfl)
                have tr1038 := rg_63_9 hI1032
                refine s_aload_n kx_197_393 rfl ?_
                refine s_iconst (v := 0) kx_197_394 (by decide) ?_
                refine r_put (k := 63) (f := 46) kx_197_395 kp_197_152 (tk_63 hT) kf_12_46 rfl (by decide) (by decide) hI1032 (ru_63_46 (by omega) (by omega)) (fun M1039 hI1039 u1039 => ?_)
                have hFm1039 := hFm1032.up u1039 rfl
                have tr1040 := (u1039.2 63 3 (by omega))
                have tr1041 := (u1039.2 63 4 (by omega))
                have tr1042 := (u1039.2 63 5 (by omega))
                have tr1043 := (u1039.2 63 9 (by omega))
                have tr1044 := (u1039.2 63 35 (by omega))
                have tr1045 := (u1039.2 63 42 (by omega))
                have tr1046 := (u1039.2 63 43 (by omega))
                have tr1047 := (u1039.2 63 45 (by omega))
                refine s_iconst (v := 1) kx_197_398 (by decide) ?_
                have hk1048 : M1039 63 9 = v11 := ((u1039.2 63 9 (by omega)).trans ((fr1032 63 9 rfl).trans ((u1022.2 63 9 (by omega)).trans ((u1013.2 63 9 (by omega)).trans ((fr1003 63 9 rfl).trans ((fr985 63 9 rfl).trans v11e))))))
                exact s_iret kx_197_399 (Or.inr ⟨kq_197, by omega⟩) ⟨_, _, rfl, rfl, hI1039, hFm1039, ⟨by omega, by omega, (LXp.up (show LXp M1032 from v1031p.2) u1039 (by decide)), (by omega), (by omega), (Or.inr (Or.inr ⟨rfl, by omega, Or.inl ⟨u1039.1, PI.to7 (PI.fr (PI.fr (PI.begins1 (PI.phase hP1012 (Or.inr (by omega)) (by omega) u1013) (by omega) (by omega) u1022) fr1032 rfl) (Up.fr u1039) rfl) (by omega)⟩⟩))⟩⟩
              refine s_if_eq (t := 370) kx_197_362 (by decide) (fun hc994 => ?_) (fun hc994 => ?_)
              · have hJ995 : Fr fS_197_j362 M985 M985 := Fr.refl
                refine s_bipush (v := 21) kx_197_370 (by decide) ?_
                exact cP.wk (lS1 rfl (lS1 rfl lS0)) (jn998 21 (by omega) (by omega) (by omega))
              · have hJ996 : Fr fS_197_j362 M985 M985 := Fr.refl
                refine s_bipush (v := 20) kx_197_365 (by decide) ?_
                refine s_goto (t := 372) kx_197_367 (by decide) ?_
                exact cP.wk (lS1 rfl (lS1 rfl lS0)) (jn998 20 (by omega) (by omega) (by omega))
            refine s_if_eq (t := 355) kx_197_348 (by decide) (fun hc976 => ?_) (fun hc976 => ?_)
            · have hJ977 : Fr fS_197_j348 M2 M2 := Fr.refl
              replace v975p := v975p.resolve_left (by omega)
              refine s_iconst (v := 1) kx_197_355 (by decide) ?_
              exact cP.wk (lS1 rfl (lS1 rfl (lS1 rfl lS0))) (jn980 1 (by omega) (by omega) (by omega))
            · have hJ978 : Fr fS_197_j348 M2 M2 := Fr.refl
              replace v975p := v975p.resolve_right (by omega)
              refine s_iconst (v := 2) kx_197_351 (by decide) ?_
              refine s_goto (t := 356) kx_197_352 (by decide) ?_
              exact cP.wk (lS1 rfl (lS1 rfl (lS1 rfl lS0))) (jn980 2 (by omega) (by omega) (by omega))
    · refine s_aload_n kx_197_42 rfl ?_
      refine s_bipush (v := 43) kx_197_43 (by decide) ?_
      refine s_callV2 (k := 63) (s1 := 2) (s2 := 0) (as := [(0, 43)]) (rest := []) kx_197_45 kp_197_283 (Or.inl rfl) rfl (tk_63 hT) ki_181 kcl_181 rfl rfl (by decide) (m_181 (d := d + 1) (c := 43) hT hI2) (kF (fun v1049 v1049p => ?_))
      refine s_if_ne (t := 87) kx_197_48 (by decide) (fun hc1050 => ?_) (fun hc1050 => ?_)
      · replace v1049p := v1049p.resolve_right (by omega)
        refine s_aload_n kx_197_87 rfl ?_
        refine s_aload_n kx_197_88 rfl ?_
        refine s_bipush (v := 43) kx_197_89 (by decide) ?_
        refine s_callV2 (k := 63) (s1 := 2) (s2 := 1) (as := [(0, 43)]) (rest := [rf 63]) kx_197_91 kp_197_283 (Or.inl rfl) rfl (tk_63 hT) ki_181 kcl_181 rfl rfl (by decide) (m_181 (d := d + 1) (c := 43) hT hI2) (kF (fun v1051 v1051p => ?_))
        have jn1058 : ∀ (y1057 : Int), (5 ≤ y1057) → (y1057 ≤ 6) → ((y1057 = 5 ∧ 1 ≤ isS M2 43 + isS M2 45) ∨ (y1057 = 6 ∧ isS M2 43 = 0 ∧ isS M2 45 = 0)) → cP k_P xs Ln (d + 2) 197 112 [(0, rf 63)] [(0, y1057), rf 63] (T, M2) (qW T M fS_197_m 0 (fun v M1 => 0 ≤ v ∧ v ≤ 1 ∧ (LXp M1 ∧ M 63 4 ≤ M1 63 4 ∧ M 63 9 ≤ M1 63 9 ∧ (GOd M M1 c a v)))) := by
          intro y1057 a1059 a1060 a1061
          refine s_callV2 (k := 63) (s1 := 2) (s2 := 0) (as := [(0, y1057)]) (rest := []) kx_197_112 kp_197_370 (Or.inl rfl) rfl (tk_63 hT) ki_191 kcl_191 rfl rfl (by decide) (m_191 (d := d) (least := y1057) hT hI2 (PI.fr hP fr2 rfl) (by omega) (by omega) (by omega)) (kV (fun M1063 hI1063 fr1063 v1062p => ?_))
          have hFm1063 := hFm2.call fr1063 rfl
          have tr1064 := (fr1063 63 3 rfl)
          have tr1065 := (fr1063 63 4 rfl)
          have tr1066 := (fr1063 63 5 rfl)
          have tr1067 := (fr1063 63 9 rfl)
          have tr1068 := (fr1063 63 42 rfl)
          have tr1069 := rg_63_9 hI1063
          have hd1070 := PI.deep v1062p
          have hs1071 := PI.small v1062p (rg_63_43 hI1063).2 (by decide)
          have hs1071a := hs1071.1
          have hs1071b := hs1071.2.1
          have hs1071c := rg_63_45 hI1063
          have hi1072 := isS_fr (c := 43) fr1063 rfl rfl
          have hi1073 := isS_fr (c := 45) fr1063 rfl rfl
          refine s_aload_n kx_197_115 rfl ?_
          refine s_aload_n kx_197_116 rfl ?_
          refine s_bipush (v := 43) kx_197_117 (by decide) ?_
          refine s_callV2 (k := 63) (s1 := 2) (s2 := 1) (as := [(0, 43)]) (rest := [rf 63]) kx_197_119 kp_197_283 (Or.inl rfl) rfl (tk_63 hT) ki_181 kcl_181 rfl rfl (by decide) (m_181 (d := d + 1) (c := 43) hT hI1063) (kF (fun v1074 v1074p => ?_))
          have jn1085 : ∀ (y1084 : Int), (10 ≤ y1084) → (y1084 ≤ 14) → ((y1084 ≤ 11 ∧ 1 ≤ isS M1063 43 + isS M1063 45) ∨ (12 ≤ y1084 ∧ isS M1063 43 = 0 ∧ isS M1063 45 = 0)) → cP k_P xs Ln (d + 2) 197 174 [(0, rf 63)] [(0, y1084), rf 63] (T, M1063) (qW T M fS_197_m 0 (fun v M1 => 0 ≤ v ∧ v ≤ 1 ∧ (LXp M1 ∧ M 63 4 ≤ M1 63 4 ∧ M 63 9 ≤ M1 63 9 ∧ (GOd M M1 c a v)))) := by
            intro y1084 a1086 a1087 a1088
            refine s_callV2 (k := 63) (s1 := 2) (s2 := 0) (as := [(0, y1084)]) (rest := []) kx_197_174 kp_197_364 (Or.inl rfl) rfl (tk_63 hT) ki_192 kcl_192 rfl rfl (by decide) (m_192 (d := d + 1) (op := y1084) hT hI1063 (by omega) (by omega)) (kV (fun M1090 hI1090 fr1090 v1089p => ?_))
            have hFm1090 := hFm1063.call fr1090 rfl
            have tr1091 := (fr1090 63 3 rfl)
            have tr1092 := (fr1090 63 4 rfl)
            have tr1093 := (fr1090 63 5 rfl)
            have tr1094 := (fr1090 63 9 rfl)
            have tr1095 := (fr1090 63 35 rfl)
            have tr1096 := (fr1090 63 42 rfl)
            have tr1097 := (fr1090 63 43 rfl)
            have tr1098 := rg_63_9 hI1090
            have hP1099 := PI.holdA v1062p (B0.fr (B0.fr hB fr2 rfl (fun _ => rfl)) fr1063 rfl (fun _ => rfl)) (by omega) fr1090 v1089p.1 v1089p.2.1 v1089p.2.2
            refine s_aload_n kx_197_177 rfl ?_
            refine s_callV2 (k := 63) (s1 := 1) (s2 := 0) (as := []) (rest := []) kx_197_178 kp_197_286 (Or.inl rfl) rfl (tk_63 hT) ki_180 kcl_180 rfl rfl (by decide) (m_180 (d := d) hT hI1090) (kV (fun M1101 hI1101 fr1101 v1100p => ?_))
            have hFm1101 := hFm1090.call fr1101 rfl
            have tr1102 := (fr1101 63 9 rfl)
            have tr1103 := (fr1101 63 35 rfl)
            have tr1104 := (fr1101 63 42 rfl)
            have tr1105 := (fr1101 63 43 rfl)
            have tr1106 := (fr1101 63 45 rfl)
            have tr1107 := rg_63_9 hI1101
            refine s_aload_n kx_197_181 rfl ?_
            refine s_iconst (v := 0) kx_197_182 (by decide) ?_
            refine r_put (k := 63) (f := 46) kx_197_183 kp_197_152 (tk_63 hT) kf_12_46 rfl (by decide) (by decide) hI1101 (ru_63_46 (by omega) (by omega)) (fun M1108 hI1108 u1108 => ?_)
            have hFm1108 := hFm1101.up u1108 rfl
            have tr1109 := (u1108.2 63 3 (by omega))
            have tr1110 := (u1108.2 63 4 (by omega))
            have tr1111 := (u1108.2 63 5 (by omega))
            have tr1112 := (u1108.2 63 9 (by omega))
            have tr1113 := (u1108.2 63 35 (by omega))
            have tr1114 := (u1108.2 63 42 (by omega))
            have tr1115 := (u1108.2 63 43 (by omega))
            have tr1116 := (u1108.2 63 45 (by omega))
            refine s_iconst (v := 1) kx_197_186 (by decide) ?_
            have hk1117 : M1108 63 9 = v11 := ((u1108.2 63 9 (by omega)).trans ((fr1101 63 9 rfl).trans ((fr1090 63 9 rfl).trans ((fr1063 63 9 rfl).trans v11e))))
            exact s_iret kx_197_187 (Or.inr ⟨kq_197, by omega⟩) ⟨_, _, rfl, rfl, hI1108, hFm1108, ⟨by omega, by omega, (LXp.up (show LXp M1101 from v1100p.2) u1108 (by decide)), (by omega), (by omega), (Or.inr (Or.inr ⟨rfl, by omega, Or.inl ⟨u1108.1, PI.to7 (PI.fr (PI.fr hP1099 fr1101 rfl) (Up.fr u1108) rfl) (by omega)⟩⟩))⟩⟩
          refine s_if_eq (t := 130) kx_197_122 (by decide) (fun hc1075 => ?_) (fun hc1075 => ?_)
          · have hJ1076 : Fr fS_197_j122 M1063 M1063 := Fr.refl
            replace v1074p := v1074p.resolve_left (by omega)
            refine s_aload_n kx_197_130 rfl ?_
            refine s_bipush (v := 45) kx_197_131 (by decide) ?_
            refine s_callV2 (k := 63) (s1 := 2) (s2 := 1) (as := [(0, 45)]) (rest := [rf 63]) kx_197_133 kp_197_283 (Or.inl rfl) rfl (tk_63 hT) ki_181 kcl_181 rfl rfl (by decide) (m_181 (d := d + 1) (c := 45) hT hI1063) (kF (fun v1077 v1077p => ?_))
            refine s_if_eq (t := 144) kx_197_136 (by decide) (fun hc1078 => ?_) (fun hc1078 => ?_)
            · replace v1077p := v1077p.resolve_left (by omega)
              refine s_aload_n kx_197_144 rfl ?_
              refine s_bipush (v := 42) kx_197_145 (by decide) ?_
              refine s_callV2 (k := 63) (s1 := 2) (s2 := 1) (as := [(0, 42)]) (rest := [rf 63]) kx_197_147 kp_197_283 (Or.inl rfl) rfl (tk_63 hT) ki_181 kcl_181 rfl rfl (by decide) (m_181 (d := d + 1) (c := 42) hT hI1063) (kF (fun v1079 v1079p => ?_))
              refine s_if_eq (t := 158) kx_197_150 (by decide) (fun hc1080 => ?_) (fun hc1080 => ?_)
              · replace v1079p := v1079p.resolve_left (by omega)
                refine s_aload_n kx_197_158 rfl ?_
                refine s_bipush (v := 47) kx_197_159 (by decide) ?_
                refine s_callV2 (k := 63) (s1 := 2) (s2 := 1) (as := [(0, 47)]) (rest := [rf 63]) kx_197_161 kp_197_283 (Or.inl rfl) rfl (tk_63 hT) ki_181 kcl_181 rfl rfl (by decide) (m_181 (d := d + 1) (c := 47) hT hI1063) (kF (fun v1081 v1081p => ?_))
                refine s_if_eq (t := 172) kx_197_164 (by decide) (fun hc1082 => ?_) (fun hc1082 => ?_)
                · replace v1081p := v1081p.resolve_left (by omega)
                  refine s_bipush (v := 14) kx_197_172 (by decide) ?_
                  exact cP.wk (lS1 rfl lS0) (jn1085 14 (by omega) (by omega) (by omega))
                · replace v1081p := v1081p.resolve_right (by omega)
                  refine s_bipush (v := 13) kx_197_167 (by decide) ?_
                  refine s_goto (t := 174) kx_197_169 (by decide) ?_
                  exact cP.wk (lS1 rfl lS0) (jn1085 13 (by omega) (by omega) (by omega))
              · replace v1079p := v1079p.resolve_right (by omega)
                refine s_bipush (v := 12) kx_197_153 (by decide) ?_
                refine s_goto (t := 174) kx_197_155 (by decide) ?_
                exact cP.wk (lS1 rfl lS0) (jn1085 12 (by omega) (by omega) (by omega))
            · replace v1077p := v1077p.resolve_right (by omega)
              refine s_bipush (v := 11) kx_197_139 (by decide) ?_
              refine s_goto (t := 174) kx_197_141 (by decide) ?_
              exact cP.wk (lS1 rfl lS0) (jn1085 11 (by omega) (by omega) (by omega))
          · have hJ1083 : Fr fS_197_j122 M1063 M1063 := Fr.refl
            replace v1074p := v1074p.resolve_right (by omega)
            refine s_bipush (v := 10) kx_197_125 (by decide) ?_
            refine s_goto (t := 174) kx_197_127 (by decide) ?_
            exact cP.wk (lS1 rfl lS0) (jn1085 10 (by omega) (by omega) (by omega))
        refine s_if_ne (t := 106) kx_197_94 (by decide) (fun hc1052 => ?_) (fun hc1052 => ?_)
        · have hJ1053 : Fr fS_197_j94 M2 M2 := Fr.refl
          replace v1051p := v1051p.resolve_right (by omega)
          refine s_iconst (v := 5) kx_197_106 (by decide) ?_
          refine s_goto (t := 112) kx_197_107 (by decide) ?_
          exact cP.wk (lS1 rfl lS0) (jn1058 5 (by omega) (by omega) (by omega))
        · have hJ1054 : Fr fS_197_j94 M2 M2 := Fr.refl
          replace v1051p := v1051p.resolve_left (by omega)
          refine s_aload_n kx_197_97 rfl ?_
          refine s_bipush (v := 45) kx_197_98 (by decide) ?_
          refine s_callV2 (k := 63) (s1 := 2) (s2 := 1) (as := [(0, 45)]) (rest := [rf 63]) kx_197_100 kp_197_283 (Or.inl rfl) rfl (tk_63 hT) ki_181 kcl_181 rfl rfl (by decide) (m_181 (d := d + 1) (c := 45) hT hI2) (kF (fun v1055 v1055p => ?_))
          refine s_if_eq (t := 110) kx_197_103 (by decide) (fun hc1056 => ?_) (fun hc1056 => ?_)
          · replace v1055p := v1055p.resolve_left (by omega)
            refine s_bipush (v := 6) kx_197_110 (by decide) ?_
            exact cP.wk (lS1 rfl lS0) (jn1058 6 (by omega) (by omega) (by omega))
          · replace v1055p := v1055p.resolve_right (by omega)
            refine s_iconst (v := 5) kx_197_106 (by decide) ?_
            refine s_goto (t := 112) kx_197_107 (by decide) ?_
            exact cP.wk (lS1 rfl lS0) (jn1058 5 (by omega) (by omega) (by omega))
      · replace v1049p := v1049p.resolve_left (by omega)
        refine s_aload_n kx_197_51 rfl ?_
        refine s_bipush (v := 45) kx_197_52 (by decide) ?_
        refine s_callV2 (k := 63) (s1 := 2) (s2 := 0) (as := [(0, 45)]) (rest := []) kx_197_54 kp_197_283 (Or.inl rfl) rfl (tk_63 hT) ki_181 kcl_181 rfl rfl (by decide) (m_181 (d := d + 1) (c := 45) hT hI2) (kF (fun v1118 v1118p => ?_))
        refine s_if_ne (t := 87) kx_197_57 (by decide) (fun hc1119 => ?_) (fun hc1119 => ?_)
        · replace v1118p := v1118p.resolve_right (by omega)
          refine s_aload_n kx_197_87 rfl ?_
          refine s_aload_n kx_197_88 rfl ?_
          refine s_bipush (v := 43) kx_197_89 (by decide) ?_
          refine s_callV2 (k := 63) (s1 := 2) (s2 := 1) (as := [(0, 43)]) (rest := [rf 63]) kx_197_91 kp_197_283 (Or.inl rfl) rfl (tk_63 hT) ki_181 kcl_181 rfl rfl (by decide) (m_181 (d := d + 1) (c := 43) hT hI2) (kF (fun v1120 v1120p => ?_))
          have jn1127 : ∀ (y1126 : Int), (5 ≤ y1126) → (y1126 ≤ 6) → ((y1126 = 5 ∧ 1 ≤ isS M2 43 + isS M2 45) ∨ (y1126 = 6 ∧ isS M2 43 = 0 ∧ isS M2 45 = 0)) → cP k_P xs Ln (d + 2) 197 112 [(0, rf 63)] [(0, y1126), rf 63] (T, M2) (qW T M fS_197_m 0 (fun v M1 => 0 ≤ v ∧ v ≤ 1 ∧ (LXp M1 ∧ M 63 4 ≤ M1 63 4 ∧ M 63 9 ≤ M1 63 9 ∧ (GOd M M1 c a v)))) := by
            intro y1126 a1128 a1129 a1130
            refine s_callV2 (k := 63) (s1 := 2) (s2 := 0) (as := [(0, y1126)]) (rest := []) kx_197_112 kp_197_370 (Or.inl rfl) rfl (tk_63 hT) ki_191 kcl_191 rfl rfl (by decide) (m_191 (d := d) (least := y1126) hT hI2 (PI.fr hP fr2 rfl) (by omega) (by omega) (by omega)) (kV (fun M1132 hI1132 fr1132 v1131p => ?_))
            have hFm1132 := hFm2.call fr1132 rfl
            have tr1133 := (fr1132 63 3 rfl)
            have tr1134 := (fr1132 63 4 rfl)
            have tr1135 := (fr1132 63 5 rfl)
            have tr1136 := (fr1132 63 9 rfl)
            have tr1137 := (fr1132 63 42 rfl)
            have tr1138 := rg_63_9 hI1132
            have hd1139 := PI.deep v1131p
            have hs1140 := PI.small v1131p (rg_63_43 hI1132).2 (by decide)
            have hs1140a := hs1140.1
            have hs1140b := hs1140.2.1
            have hs1140c := rg_63_45 hI1132
            have hi1141 := isS_fr (c := 43) fr1132 rfl rfl
            have hi1142 := isS_fr (c := 45) fr1132 rfl rfl
            refine s_aload_n kx_197_115 rfl ?_
            refine s_aload_n kx_197_116 rfl ?_
            refine s_bipush (v := 43) kx_197_117 (by decide) ?_
            refine s_callV2 (k := 63) (s1 := 2) (s2 := 1) (as := [(0, 43)]) (rest := [rf 63]) kx_197_119 kp_197_283 (Or.inl rfl) rfl (tk_63 hT) ki_181 kcl_181 rfl rfl (by decide) (m_181 (d := d + 1) (c := 43) hT hI1132) (kF (fun v1143 v1143p => ?_))
            have jn1154 : ∀ (y1153 : Int), (10 ≤ y1153) → (y1153 ≤ 14) → ((y1153 ≤ 11 ∧ 1 ≤ isS M1132 43 + isS M1132 45) ∨ (12 ≤ y1153 ∧ isS M1132 43 = 0 ∧ isS M1132 45 = 0)) → cP k_P xs Ln (d + 2) 197 174 [(0, rf 63)] [(0, y1153), rf 63] (T, M1132) (qW T M fS_197_m 0 (fun v M1 => 0 ≤ v ∧ v ≤ 1 ∧ (LXp M1 ∧ M 63 4 ≤ M1 63 4 ∧ M 63 9 ≤ M1 63 9 ∧ (GOd M M1 c a v)))) := by
              intro y1153 a1155 a1156 a1157
              refine s_callV2 (k := 63) (s1 := 2) (s2 := 0) (as := [(0, y1153)]) (rest := []) kx_197_174 kp_197_364 (Or.inl rfl) rfl (tk_63 hT) ki_192 kcl_192 rfl rfl (by decide) (m_192 (d := d + 1) (op := y1153) hT hI1132 (by omega) (by omega)) (kV (fun M1159 hI1159 fr1159 v1158p => ?_))
              have hFm1159 := hFm1132.call fr1159 rfl
              have tr1160 := (fr1159 63 3 rfl)
              have tr1161 := (fr1159 63 4 rfl)
              have tr1162 := (fr1159 63 5 rfl)
              have tr1163 := (fr1159 63 9 rfl)
              have tr1164 := (fr1159 63 35 rfl)
              have tr1165 := (fr1159 63 42 rfl)
              have tr1166 := (fr1159 63 43 rfl)
              have tr1167 := rg_63_9 hI1159
              have hP1168 := PI.holdA v1131p (B0.fr (B0.fr hB fr2 rfl (fun _ => rfl)) fr1132 rfl (fun _ => rfl)) (by omega) fr1159 v1158p.1 v1158p.2.1 v1158p.2.2
              refine s_aload_n kx_197_177 rfl ?_
              refine s_callV2 (k := 63) (s1 := 1) (s2 := 0) (as := []) (rest := []) kx_197_178 kp_197_286 (Or.inl rfl) rfl (tk_63 hT) ki_180 kcl_180 rfl rfl (by decide) (m_180 (d := d) hT hI1159) (kV (fun M1170 hI1170 fr1170 v1169p => ?_))
              have hFm1170 := hFm1159.call fr1170 rfl
              have tr1171 := (fr1170 63 9 rfl)
              have tr1172 := (fr1170 63 35 rfl)
              have tr1173 := (fr1170 63 42 rfl)
              have tr1174 := (fr1170 63 43 rfl)
              have tr1175 := (fr1170 63 45 rfl)
              have tr1176 := rg_63_9 hI1170
              refine s_aload_n kx_197_181 rfl ?_
              refine s_iconst (v := 0) kx_197_182 (by decide) ?_
              refine r_put (k := 63) (f := 46) kx_197_183 kp_197_152 (tk_63 hT) kf_12_46 rfl (by decide) (by decide) hI1170 (ru_63_46 (by omega) (by omega)) (fun M1177 hI1177 u1177 => ?_)
              have hFm1177 := hFm1170.up u1177 rfl
              have tr1178 := (u1177.2 63 3 (by omega))
              have tr1179 := (u1177.2 63 4 (by omega))
              have tr1180 := (u1177.2 63 5 (by omega))
              have tr1181 := (u1177.2 63 9 (by omega))
              have tr1182 := (u1177.2 63 35 (by omega))
              have tr1183 := (u1177.2 63 42 (by omega))
              have tr1184 := (u1177.2 63 43 (by omega))
              have tr1185 := (u1177.2 63 45 (by omega))
              refine s_iconst (v := 1) kx_197_186 (by decide) ?_
              have hk1186 : M1177 63 9 = v11 := ((u1177.2 63 9 (by omega)).trans ((fr1170 63 9 rfl).trans ((fr1159 63 9 rfl).trans ((fr1132 63 9 rfl).trans v11e))))
              exact s_iret kx_197_187 (Or.inr ⟨kq_197, by omega⟩) ⟨_, _, rfl, rfl, hI1177, hFm1177, ⟨by omega, by omega, (LXp.up (show LXp M1170 from v1169p.2) u1177 (by decide)), (by omega), (by omega), (Or.inr (Or.inr ⟨rfl, by omega, Or.inl ⟨u1177.1, PI.to7 (PI.fr (PI.fr hP1168 fr1170 rfl) (Up.fr u1177) rfl) (by omega)⟩⟩))⟩⟩
            refine s_if_eq (t := 130) kx_197_122 (by decide) (fun hc1144 => ?_) (fun hc1144 => ?_)
            · have hJ1145 : Fr fS_197_j122 M1132 M1132 := Fr.refl
              replace v1143p := v1143p.resolve_left (by omega)
              refine s_aload_n kx_197_130 rfl ?_
              refine s_bipush (v := 45) kx_197_131 (by decide) ?_
              refine s_callV2 (k := 63) (s1 := 2) (s2 := 1) (as := [(0, 45)]) (rest := [rf 63]) kx_197_133 kp_197_283 (Or.inl rfl) rfl (tk_63 hT) ki_181 kcl_181 rfl rfl (by decide) (m_181 (d := d + 1) (c := 45) hT hI1132) (kF (fun v1146 v1146p => ?_))
              refine s_if_eq (t := 144) kx_197_136 (by decide) (fun hc1147 => ?_) (fun hc1147 => ?_)
              · replace v1146p := v1146p.resolve_left (by omega)
                refine s_aload_n kx_197_144 rfl ?_
                refine s_bipush (v := 42) kx_197_145 (by decide) ?_
                refine s_callV2 (k := 63) (s1 := 2) (s2 := 1) (as := [(0, 42)]) (rest := [rf 63]) kx_197_147 kp_197_283 (Or.inl rfl) rfl (tk_63 hT) ki_181 kcl_181 rfl rfl (by decide) (m_181 (d := d + 1) (c := 42) hT hI1132) (kF (fun v1148 v1148p => ?_))
                refine s_if_eq (t := 158) kx_197_150 (by decide) (fun hc1149 => ?_) (fun hc1149 => ?_)
                · replace v1148p := v1148p.resolve_left (by omega)
                  refine s_aload_n kx_197_158 rfl ?_
                  refine s_bipush (v := 47) kx_197_159 (by decide) ?_
                  refine s_callV2 (k := 63) (s1 := 2) (s2 := 1) (as := [(0, 47)]) (rest := [rf 63]) kx_197_161 kp_197_283 (Or.inl rfl) rfl (tk_63 hT) ki_181 kcl_181 rfl rfl (by decide) (m_181 (d := d + 1) (c := 47) hT hI1132) (kF (fun v1150 v1150p => ?_))
                  refine s_if_eq (t := 172) kx_197_164 (by decide) (fun hc1151 => ?_) (fun hc1151 => ?_)
                  · replace v1150p := v1150p.resolve_left (by omega)
                    refine s_bipush (v := 14) kx_197_172 (by decide) ?_
                    exact cP.wk (lS1 rfl lS0) (jn1154 14 (by omega) (by omega) (by omega))
                  · replace v1150p := v1150p.resolve_right (by omega)
                    refine s_bipush (v := 13) kx_197_167 (by decide) ?_
                    refine s_goto (t := 174) kx_197_169 (by decide) ?_
                    exact cP.wk (lS1 rfl lS0) (jn1154 13 (by omega) (by omega) (by omega))
                · replace v1148p := v1148p.resolve_right (by omega)
                  refine s_bipush (v := 12) kx_197_153 (by decide) ?_
                  refine s_goto (t := 174) kx_197_155 (by decide) ?_
                  exact cP.wk (lS1 rfl lS0) (jn1154 12 (by omega) (by omega) (by omega))
              · replace v1146p := v1146p.resolve_right (by omega)
                refine s_bipush (v := 11) kx_197_139 (by decide) ?_
                refine s_goto (t := 174) kx_197_141 (by decide) ?_
                exact cP.wk (lS1 rfl lS0) (jn1154 11 (by omega) (by omega) (by omega))
            · have hJ1152 : Fr fS_197_j122 M1132 M1132 := Fr.refl
              replace v1143p := v1143p.resolve_right (by omega)
              refine s_bipush (v := 10) kx_197_125 (by decide) ?_
              refine s_goto (t := 174) kx_197_127 (by decide) ?_
              exact cP.wk (lS1 rfl lS0) (jn1154 10 (by omega) (by omega) (by omega))
          refine s_if_ne (t := 106) kx_197_94 (by decide) (fun hc1121 => ?_) (fun hc1121 => ?_)
          · have hJ1122 : Fr fS_197_j94 M2 M2 := Fr.refl
            replace v1120p := v1120p.resolve_right (by omega)
            refine s_iconst (v := 5) kx_197_106 (by decide) ?_
            refine s_goto (t := 112) kx_197_107 (by decide) ?_
            exact cP.wk (lS1 rfl lS0) (jn1127 5 (by omega) (by omega) (by omega))
          · have hJ1123 : Fr fS_197_j94 M2 M2 := Fr.refl
            replace v1120p := v1120p.resolve_left (by omega)
            refine s_aload_n kx_197_97 rfl ?_
            refine s_bipush (v := 45) kx_197_98 (by decide) ?_
            refine s_callV2 (k := 63) (s1 := 2) (s2 := 1) (as := [(0, 45)]) (rest := [rf 63]) kx_197_100 kp_197_283 (Or.inl rfl) rfl (tk_63 hT) ki_181 kcl_181 rfl rfl (by decide) (m_181 (d := d + 1) (c := 45) hT hI2) (kF (fun v1124 v1124p => ?_))
            refine s_if_eq (t := 110) kx_197_103 (by decide) (fun hc1125 => ?_) (fun hc1125 => ?_)
            · replace v1124p := v1124p.resolve_left (by omega)
              refine s_bipush (v := 6) kx_197_110 (by decide) ?_
              exact cP.wk (lS1 rfl lS0) (jn1127 6 (by omega) (by omega) (by omega))
            · replace v1124p := v1124p.resolve_right (by omega)
              refine s_iconst (v := 5) kx_197_106 (by decide) ?_
              refine s_goto (t := 112) kx_197_107 (by decide) ?_
              exact cP.wk (lS1 rfl lS0) (jn1127 5 (by omega) (by omega) (by omega))
        · replace v1118p := v1118p.resolve_left (by omega)
          refine s_aload_n kx_197_60 rfl ?_
          refine s_bipush (v := 42) kx_197_61 (by decide) ?_
          refine s_callV2 (k := 63) (s1 := 2) (s2 := 0) (as := [(0, 42)]) (rest := []) kx_197_63 kp_197_283 (Or.inl rfl) rfl (tk_63 hT) ki_181 kcl_181 rfl rfl (by decide) (m_181 (d := d + 1) (c := 42) hT hI2) (kF (fun v1187 v1187p => ?_))
          refine s_if_ne (t := 87) kx_197_66 (by decide) (fun hc1188 => ?_) (fun hc1188 => ?_)
          · replace v1187p := v1187p.resolve_right (by omega)
            refine s_aload_n kx_197_87 rfl ?_
            refine s_aload_n kx_197_88 rfl ?_
            refine s_bipush (v := 43) kx_197_89 (by decide) ?_
            refine s_callV2 (k := 63) (s1 := 2) (s2 := 1) (as := [(0, 43)]) (rest := [rf 63]) kx_197_91 kp_197_283 (Or.inl rfl) rfl (tk_63 hT) ki_181 kcl_181 rfl rfl (by decide) (m_181 (d := d + 1) (c := 43) hT hI2) (kF (fun v1189 v1189p => ?_))
            have jn1196 : ∀ (y1195 : Int), (5 ≤ y1195) → (y1195 ≤ 6) → ((y1195 = 5 ∧ 1 ≤ isS M2 43 + isS M2 45) ∨ (y1195 = 6 ∧ isS M2 43 = 0 ∧ isS M2 45 = 0)) → cP k_P xs Ln (d + 2) 197 112 [(0, rf 63)] [(0, y1195), rf 63] (T, M2) (qW T M fS_197_m 0 (fun v M1 => 0 ≤ v ∧ v ≤ 1 ∧ (LXp M1 ∧ M 63 4 ≤ M1 63 4 ∧ M 63 9 ≤ M1 63 9 ∧ (GOd M M1 c a v)))) := by
              intro y1195 a1197 a1198 a1199
              refine s_callV2 (k := 63) (s1 := 2) (s2 := 0) (as := [(0, y1195)]) (rest := []) kx_197_112 kp_197_370 (Or.inl rfl) rfl (tk_63 hT) ki_191 kcl_191 rfl rfl (by decide) (m_191 (d := d) (least := y1195) hT hI2 (PI.fr hP fr2 rfl) (by omega) (by omega) (by omega)) (kV (fun M1201 hI1201 fr1201 v1200p => ?_))
              have hFm1201 := hFm2.call fr1201 rfl
              have tr1202 := (fr1201 63 3 rfl)
              have tr1203 := (fr1201 63 4 rfl)
              have tr1204 := (fr1201 63 5 rfl)
              have tr1205 := (fr1201 63 9 rfl)
              have tr1206 := (fr1201 63 42 rfl)
              have tr1207 := rg_63_9 hI1201
              have hd1208 := PI.deep v1200p
              have hs1209 := PI.small v1200p (rg_63_43 hI1201).2 (by decide)
              have hs1209a := hs1209.1
              have hs1209b := hs1209.2.1
              have hs1209c := rg_63_45 hI1201
              have hi1210 := isS_fr (c := 43) fr1201 rfl rfl
              have hi1211 := isS_fr (c := 45) fr1201 rfl rfl
              refine s_aload_n kx_197_115 rfl ?_
              refine s_aload_n kx_197_116 rfl ?_
              refine s_bipush (v := 43) kx_197_117 (by decide) ?_
              refine s_callV2 (k := 63) (s1 := 2) (s2 := 1) (as := [(0, 43)]) (rest := [rf 63]) kx_197_119 kp_197_283 (Or.inl rfl) rfl (tk_63 hT) ki_181 kcl_181 rfl rfl (by decide) (m_181 (d := d + 1) (c := 43) hT hI1201) (kF (fun v1212 v1212p => ?_))
              have jn1223 : ∀ (y1222 : Int), (10 ≤ y1222) → (y1222 ≤ 14) → ((y1222 ≤ 11 ∧ 1 ≤ isS M1201 43 + isS M1201 45) ∨ (12 ≤ y1222 ∧ isS M1201 43 = 0 ∧ isS M1201 45 = 0)) → cP k_P xs Ln (d + 2) 197 174 [(0, rf 63)] [(0, y1222), rf 63] (T, M1201) (qW T M fS_197_m 0 (fun v M1 => 0 ≤ v ∧ v ≤ 1 ∧ (LXp M1 ∧ M 63 4 ≤ M1 63 4 ∧ M 63 9 ≤ M1 63 9 ∧ (GOd M M1 c a v)))) := by
                intro y1222 a1224 a1225 a1226
                refine s_callV2 (k := 63) (s1 := 2) (s2 := 0) (as := [(0, y1222)]) (rest := []) kx_197_174 kp_197_364 (Or.inl rfl) rfl (tk_63 hT) ki_192 kcl_192 rfl rfl (by decide) (m_192 (d := d + 1) (op := y1222) hT hI1201 (by omega) (by omega)) (kV (fun M1228 hI1228 fr1228 v1227p => ?_))
                have hFm1228 := hFm1201.call fr1228 rfl
                have tr1229 := (fr1228 63 3 rfl)
                have tr1230 := (fr1228 63 4 rfl)
                have tr1231 := (fr1228 63 5 rfl)
                have tr1232 := (fr1228 63 9 rfl)
                have tr1233 := (fr1228 63 35 rfl)
                have tr1234 := (fr1228 63 42 rfl)
                have tr1235 := (fr1228 63 43 rfl)
                have tr1236 := rg_63_9 hI1228
                have hP1237 := PI.holdA v1200p (B0.fr (B0.fr hB fr2 rfl (fun _ => rfl)) fr1201 rfl (fun _ => rfl)) (by omega) fr1228 v1227p.1 v1227p.2.1 v1227p.2.2
                refine s_aload_n kx_197_177 rfl ?_
                refine s_callV2 (k := 63) (s1 := 1) (s2 := 0) (as := []) (rest := []) kx_197_178 kp_197_286 (Or.inl rfl) rfl (tk_63 hT) ki_180 kcl_180 rfl rfl (by decide) (m_180 (d := d) hT hI1228) (kV (fun M1239 hI1239 fr1239 v1238p => ?_))
                have hFm1239 := hFm1228.call fr1239 rfl
                have tr1240 := (fr1239 63 9 rfl)
                have tr1241 := (fr1239 63 35 rfl)
                have tr1242 := (fr1239 63 42 rfl)
                have tr1243 := (fr1239 63 43 rfl)
                have tr1244 := (fr1239 63 45 rfl)
                have tr1245 := rg_63_9 hI1239
                refine s_aload_n kx_197_181 rfl ?_
                refine s_iconst (v := 0) kx_197_182 (by decide) ?_
                refine r_put (k := 63) (f := 46) kx_197_183 kp_197_152 (tk_63 hT) kf_12_46 rfl (by decide) (by decide) hI1239 (ru_63_46 (by omega) (by omega)) (fun M1246 hI1246 u1246 => ?_)
                have hFm1246 := hFm1239.up u1246 rfl
                have tr1247 := (u1246.2 63 3 (by omega))
                have tr1248 := (u1246.2 63 4 (by omega))
                have tr1249 := (u1246.2 63 5 (by omega))
                have tr1250 := (u1246.2 63 9 (by omega))
                have tr1251 := (u1246.2 63 35 (by omega))
                have tr1252 := (u1246.2 63 42 (by omega))
                have tr1253 := (u1246.2 63 43 (by omega))
                have tr1254 := (u1246.2 63 45 (by omega))
                refine s_iconst (v := 1) kx_197_186 (by decide) ?_
                have hk1255 : M1246 63 9 = v11 := ((u1246.2 63 9 (by omega)).trans ((fr1239 63 9 rfl).trans ((fr1228 63 9 rfl).trans ((fr1201 63 9 rfl).trans v11e))))
                exact s_iret kx_197_187 (Or.inr ⟨kq_197, by omega⟩) ⟨_, _, rfl, rfl, hI1246, hFm1246, ⟨by omega, by omega, (LXp.up (show LXp M1239 from v1238p.2) u1246 (by decide)), (by omega), (by omega), (Or.inr (Or.inr ⟨rfl, by omega, Or.inl ⟨u1246.1, PI.to7 (PI.fr (PI.fr hP1237 fr1239 rfl) (Up.fr u1246) rfl) (by omega)⟩⟩))⟩⟩
              refine s_if_eq (t := 130) kx_197_122 (by decide) (fun hc1213 => ?_) (fun hc1213 => ?_)
              · have hJ1214 : Fr fS_197_j122 M1201 M1201 := Fr.refl
                replace v1212p := v1212p.resolve_left (by omega)
                refine s_aload_n kx_197_130 rfl ?_
                refine s_bipush (v := 45) kx_197_131 (by decide) ?_
                refine s_callV2 (k := 63) (s1 := 2) (s2 := 1) (as := [(0, 45)]) (rest := [rf 63]) kx_197_133 kp_197_283 (Or.inl rfl) rfl (tk_63 hT) ki_181 kcl_181 rfl rfl (by decide) (m_181 (d := d + 1) (c := 45) hT hI1201) (kF (fun v1215 v1215p => ?_))
                refine s_if_eq (t := 144) kx_197_136 (by decide) (fun hc1216 => ?_) (fun hc1216 => ?_)
                · replace v1215p := v1215p.resolve_left (by omega)
                  refine s_aload_n kx_197_144 rfl ?_
                  refine s_bipush (v := 42) kx_197_145 (by decide) ?_
                  refine s_callV2 (k := 63) (s1 := 2) (s2 := 1) (as := [(0, 42)]) (rest := [rf 63]) kx_197_147 kp_197_283 (Or.inl rfl) rfl (tk_63 hT) ki_181 kcl_181 rfl rfl (by decide) (m_181 (d := d + 1) (c := 42) hT hI1201) (kF (fun v1217 v1217p => ?_))
                  refine s_if_eq (t := 158) kx_197_150 (by decide) (fun hc1218 => ?_) (fun hc1218 => ?_)
                  · replace v1217p := v1217p.resolve_left (by omega)
                    refine s_aload_n kx_197_158 rfl ?_
                    refine s_bipush (v := 47) kx_197_159 (by decide) ?_
                    refine s_callV2 (k := 63) (s1 := 2) (s2 := 1) (as := [(0, 47)]) (rest := [rf 63]) kx_197_161 kp_197_283 (Or.inl rfl) rfl (tk_63 hT) ki_181 kcl_181 rfl rfl (by decide) (m_181 (d := d + 1) (c := 47) hT hI1201) (kF (fun v1219 v1219p => ?_))
                    refine s_if_eq (t := 172) kx_197_164 (by decide) (fun hc1220 => ?_) (fun hc1220 => ?_)
                    · replace v1219p := v1219p.resolve_left (by omega)
                      refine s_bipush (v := 14) kx_197_172 (by decide) ?_
                      exact cP.wk (lS1 rfl lS0) (jn1223 14 (by omega) (by omega) (by omega))
                    · replace v1219p := v1219p.resolve_right (by omega)
                      refine s_bipush (v := 13) kx_197_167 (by decide) ?_
                      refine s_goto (t := 174) kx_197_169 (by decide) ?_
                      exact cP.wk (lS1 rfl lS0) (jn1223 13 (by omega) (by omega) (by omega))
                  · replace v1217p := v1217p.resolve_right (by omega)
                    refine s_bipush (v := 12) kx_197_153 (by decide) ?_
                    refine s_goto (t := 174) kx_197_155 (by decide) ?_
                    exact cP.wk (lS1 rfl lS0) (jn1223 12 (by omega) (by omega) (by omega))
                · replace v1215p := v1215p.resolve_right (by omega)
                  refine s_bipush (v := 11) kx_197_139 (by decide) ?_
                  refine s_goto (t := 174) kx_197_141 (by decide) ?_
                  exact cP.wk (lS1 rfl lS0) (jn1223 11 (by omega) (by omega) (by omega))
              · have hJ1221 : Fr fS_197_j122 M1201 M1201 := Fr.refl
                replace v1212p := v1212p.resolve_right (by omega)
                refine s_bipush (v := 10) kx_197_125 (by decide) ?_
                refine s_goto (t := 174) kx_197_127 (by decide) ?_
                exact cP.wk (lS1 rfl lS0) (jn1223 10 (by omega) (by omega) (by omega))
            refine s_if_ne (t := 106) kx_197_94 (by decide) (fun hc1190 => ?_) (fun hc1190 => ?_)
            · have hJ1191 : Fr fS_197_j94 M2 M2 := Fr.refl
              replace v1189p := v1189p.resolve_right (by omega)
              refine s_iconst (v := 5) kx_197_106 (by decide) ?_
              refine s_goto (t := 112) kx_197_107 (by decide) ?_
              exact cP.wk (lS1 rfl lS0) (jn1196 5 (by omega) (by omega) (by omega))
            · have hJ1192 : Fr fS_197_j94 M2 M2 := Fr.refl
              replace v1189p := v1189p.resolve_left (by omega)
              refine s_aload_n kx_197_97 rfl ?_
              refine s_bipush (v := 45) kx_197_98 (by decide) ?_
              refine s_callV2 (k := 63) (s1 := 2) (s2 := 1) (as := [(0, 45)]) (rest := [rf 63]) kx_197_100 kp_197_283 (Or.inl rfl) rfl (tk_63 hT) ki_181 kcl_181 rfl rfl (by decide) (m_181 (d := d + 1) (c := 45) hT hI2) (kF (fun v1193 v1193p => ?_))
              refine s_if_eq (t := 110) kx_197_103 (by decide) (fun hc1194 => ?_) (fun hc1194 => ?_)
              · replace v1193p := v1193p.resolve_left (by omega)
                refine s_bipush (v := 6) kx_197_110 (by decide) ?_
                exact cP.wk (lS1 rfl lS0) (jn1196 6 (by omega) (by omega) (by omega))
              · replace v1193p := v1193p.resolve_right (by omega)
                refine s_iconst (v := 5) kx_197_106 (by decide) ?_
                refine s_goto (t := 112) kx_197_107 (by decide) ?_
                exact cP.wk (lS1 rfl lS0) (jn1196 5 (by omega) (by omega) (by omega))
          · replace v1187p := v1187p.resolve_left (by omega)
            refine s_aload_n kx_197_69 rfl ?_
            refine s_bipush (v := 47) kx_197_70 (by decide) ?_
            refine s_callV2 (k := 63) (s1 := 2) (s2 := 0) (as := [(0, 47)]) (rest := []) kx_197_72 kp_197_283 (Or.inl rfl) rfl (tk_63 hT) ki_181 kcl_181 rfl rfl (by decide) (m_181 (d := d + 1) (c := 47) hT hI2) (kF (fun v1256 v1256p => ?_))
            refine s_if_ne (t := 87) kx_197_75 (by decide) (fun hc1257 => ?_) (fun hc1257 => ?_)
            · replace v1256p := v1256p.resolve_right (by omega)
              refine s_aload_n kx_197_87 rfl ?_
              refine s_aload_n kx_197_88 rfl ?_
              refine s_bipush (v := 43) kx_197_89 (by decide) ?_
              refine s_callV2 (k := 63) (s1 := 2) (s2 := 1) (as := [(0, 43)]) (rest := [rf 63]) kx_197_91 kp_197_283 (Or.inl rfl) rfl (tk_63 hT) ki_181 kcl_181 rfl rfl (by decide) (m_181 (d := d + 1) (c := 43) hT hI2) (kF (fun v1258 v1258p => ?_))
              have jn1265 : ∀ (y1264 : Int), (5 ≤ y1264) → (y1264 ≤ 6) → ((y1264 = 5 ∧ 1 ≤ isS M2 43 + isS M2 45) ∨ (y1264 = 6 ∧ isS M2 43 = 0 ∧ isS M2 45 = 0)) → cP k_P xs Ln (d + 2) 197 112 [(0, rf 63)] [(0, y1264), rf 63] (T, M2) (qW T M fS_197_m 0 (fun v M1 => 0 ≤ v ∧ v ≤ 1 ∧ (LXp M1 ∧ M 63 4 ≤ M1 63 4 ∧ M 63 9 ≤ M1 63 9 ∧ (GOd M M1 c a v)))) := by
                intro y1264 a1266 a1267 a1268
                refine s_callV2 (k := 63) (s1 := 2) (s2 := 0) (as := [(0, y1264)]) (rest := []) kx_197_112 kp_197_370 (Or.inl rfl) rfl (tk_63 hT) ki_191 kcl_191 rfl rfl (by decide) (m_191 (d := d) (least := y1264) hT hI2 (PI.fr hP fr2 rfl) (by omega) (by omega) (by omega)) (kV (fun M1270 hI1270 fr1270 v1269p => ?_))
                have hFm1270 := hFm2.call fr1270 rfl
                have tr1271 := (fr1270 63 3 rfl)
                have tr1272 := (fr1270 63 4 rfl)
                have tr1273 := (fr1270 63 5 rfl)
                have tr1274 := (fr1270 63 9 rfl)
                have tr1275 := (fr1270 63 42 rfl)
                have tr1276 := rg_63_9 hI1270
                have hd1277 := PI.deep v1269p
                have hs1278 := PI.small v1269p (rg_63_43 hI1270).2 (by decide)
                have hs1278a := hs1278.1
                have hs1278b := hs1278.2.1
                have hs1278c := rg_63_45 hI1270
                have hi1279 := isS_fr (c := 43) fr1270 rfl rfl
                have hi1280 := isS_fr (c := 45) fr1270 rfl rfl
                refine s_aload_n kx_197_115 rfl ?_
                refine s_aload_n kx_197_116 rfl ?_
                refine s_bipush (v := 43) kx_197_117 (by decide) ?_
                refine s_callV2 (k := 63) (s1 := 2) (s2 := 1) (as := [(0, 43)]) (rest := [rf 63]) kx_197_119 kp_197_283 (Or.inl rfl) rfl (tk_63 hT) ki_181 kcl_181 rfl rfl (by decide) (m_181 (d := d + 1) (c := 43) hT hI1270) (kF (fun v1281 v1281p => ?_))
                have jn1292 : ∀ (y1291 : Int), (10 ≤ y1291) → (y1291 ≤ 14) → ((y1291 ≤ 11 ∧ 1 ≤ isS M1270 43 + isS M1270 45) ∨ (12 ≤ y1291 ∧ isS M1270 43 = 0 ∧ isS M1270 45 = 0)) → cP k_P xs Ln (d + 2) 197 174 [(0, rf 63)] [(0, y1291), rf 63] (T, M1270) (qW T M fS_197_m 0 (fun v M1 => 0 ≤ v ∧ v ≤ 1 ∧ (LXp M1 ∧ M 63 4 ≤ M1 63 4 ∧ M 63 9 ≤ M1 63 9 ∧ (GOd M M1 c a v)))) := by
                  intro y1291 a1293 a1294 a1295
                  refine s_callV2 (k := 63) (s1 := 2) (s2 := 0) (as := [(0, y1291)]) (rest := []) kx_197_174 kp_197_364 (Or.inl rfl) rfl (tk_63 hT) ki_192 kcl_192 rfl rfl (by decide) (m_192 (d := d + 1) (op := y1291) hT hI1270 (by omega) (by omega)) (kV (fun M1297 hI1297 fr1297 v1296p => ?_))
                  have hFm1297 := hFm1270.call fr1297 rfl
                  have tr1298 := (fr1297 63 3 rfl)
                  have tr1299 := (fr1297 63 4 rfl)
                  have tr1300 := (fr1297 63 5 rfl)
                  have tr1301 := (fr1297 63 9 rfl)
                  have tr1302 := (fr1297 63 35 rfl)
                  have tr1303 := (fr1297 63 42 rfl)
                  have tr1304 := (fr1297 63 43 rfl)
                  have tr1305 := rg_63_9 hI1297
                  have hP1306 := PI.holdA v1269p (B0.fr (B0.fr hB fr2 rfl (fun _ => rfl)) fr1270 rfl (fun _ => rfl)) (by omega) fr1297 v1296p.1 v1296p.2.1 v1296p.2.2
                  refine s_aload_n kx_197_177 rfl ?_
                  refine s_callV2 (k := 63) (s1 := 1) (s2 := 0) (as := []) (rest := []) kx_197_178 kp_197_286 (Or.inl rfl) rfl (tk_63 hT) ki_180 kcl_180 rfl rfl (by decide) (m_180 (d := d) hT hI1297) (kV (fun M1308 hI1308 fr1308 v1307p => ?_))
                  have hFm1308 := hFm1297.call fr1308 rfl
                  have tr1309 := (fr1308 63 9 rfl)
                  have tr1310 := (fr1308 63 35 rfl)
                  have tr1311 := (fr1308 63 42 rfl)
                  have tr1312 := (fr1308 63 43 rfl)
                  have tr1313 := (fr1308 63 45 rfl)
                  have tr1314 := rg_63_9 hI1308
                  refine s_aload_n kx_197_181 rfl ?_
                  refine s_iconst (v := 0) kx_197_182 (by decide) ?_
                  refine r_put (k := 63) (f := 46) kx_197_183 kp_197_152 (tk_63 hT) kf_12_46 rfl (by decide) (by decide) hI1308 (ru_63_46 (by omega) (by omega)) (fun M1315 hI1315 u1315 => ?_)
                  have hFm1315 := hFm1308.up u1315 rfl
                  have tr1316 := (u1315.2 63 3 (by omega))
                  have tr1317 := (u1315.2 63 4 (by omega))
                  have tr1318 := (u1315.2 63 5 (by omega))
                  have tr1319 := (u1315.2 63 9 (by omega))
                  have tr1320 := (u1315.2 63 35 (by omega))
                  have tr1321 := (u1315.2 63 42 (by omega))
                  have tr1322 := (u1315.2 63 43 (by omega))
                  have tr1323 := (u1315.2 63 45 (by omega))
                  refine s_iconst (v := 1) kx_197_186 (by decide) ?_
                  have hk1324 : M1315 63 9 = v11 := ((u1315.2 63 9 (by omega)).trans ((fr1308 63 9 rfl).trans ((fr1297 63 9 rfl).trans ((fr1270 63 9 rfl).trans v11e))))
                  exact s_iret kx_197_187 (Or.inr ⟨kq_197, by omega⟩) ⟨_, _, rfl, rfl, hI1315, hFm1315, ⟨by omega, by omega, (LXp.up (show LXp M1308 from v1307p.2) u1315 (by decide)), (by omega), (by omega), (Or.inr (Or.inr ⟨rfl, by omega, Or.inl ⟨u1315.1, PI.to7 (PI.fr (PI.fr hP1306 fr1308 rfl) (Up.fr u1315) rfl) (by omega)⟩⟩))⟩⟩
                refine s_if_eq (t := 130) kx_197_122 (by decide) (fun hc1282 => ?_) (fun hc1282 => ?_)
                · have hJ1283 : Fr fS_197_j122 M1270 M1270 := Fr.refl
                  replace v1281p := v1281p.resolve_left (by omega)
                  refine s_aload_n kx_197_130 rfl ?_
                  refine s_bipush (v := 45) kx_197_131 (by decide) ?_
                  refine s_callV2 (k := 63) (s1 := 2) (s2 := 1) (as := [(0, 45)]) (rest := [rf 63]) kx_197_133 kp_197_283 (Or.inl rfl) rfl (tk_63 hT) ki_181 kcl_181 rfl rfl (by decide) (m_181 (d := d + 1) (c := 45) hT hI1270) (kF (fun v1284 v1284p => ?_))
                  refine s_if_eq (t := 144) kx_197_136 (by decide) (fun hc1285 => ?_) (fun hc1285 => ?_)
                  · replace v1284p := v1284p.resolve_left (by omega)
                    refine s_aload_n kx_197_144 rfl ?_
                    refine s_bipush (v := 42) kx_197_145 (by decide) ?_
                    refine s_callV2 (k := 63) (s1 := 2) (s2 := 1) (as := [(0, 42)]) (rest := [rf 63]) kx_197_147 kp_197_283 (Or.inl rfl) rfl (tk_63 hT) ki_181 kcl_181 rfl rfl (by decide) (m_181 (d := d + 1) (c := 42) hT hI1270) (kF (fun v1286 v1286p => ?_))
                    refine s_if_eq (t := 158) kx_197_150 (by decide) (fun hc1287 => ?_) (fun hc1287 => ?_)
                    · replace v1286p := v1286p.resolve_left (by omega)
                      refine s_aload_n kx_197_158 rfl ?_
                      refine s_bipush (v := 47) kx_197_159 (by decide) ?_
                      refine s_callV2 (k := 63) (s1 := 2) (s2 := 1) (as := [(0, 47)]) (rest := [rf 63]) kx_197_161 kp_197_283 (Or.inl rfl) rfl (tk_63 hT) ki_181 kcl_181 rfl rfl (by decide) (m_181 (d := d + 1) (c := 47) hT hI1270) (kF (fun v1288 v1288p => ?_))
                      refine s_if_eq (t := 172) kx_197_164 (by decide) (fun hc1289 => ?_) (fun hc1289 => ?_)
                      · replace v1288p := v1288p.resolve_left (by omega)
                        refine s_bipush (v := 14) kx_197_172 (by decide) ?_
                        exact cP.wk (lS1 rfl lS0) (jn1292 14 (by omega) (by omega) (by omega))
                      · replace v1288p := v1288p.resolve_right (by omega)
                        refine s_bipush (v := 13) kx_197_167 (by decide) ?_
                        refine s_goto (t := 174) kx_197_169 (by decide) ?_
                        exact cP.wk (lS1 rfl lS0) (jn1292 13 (by omega) (by omega) (by omega))
                    · replace v1286p := v1286p.resolve_right (by omega)
                      refine s_bipush (v := 12) kx_197_153 (by decide) ?_
                      refine s_goto (t := 174) kx_197_155 (by decide) ?_
                      exact cP.wk (lS1 rfl lS0) (jn1292 12 (by omega) (by omega) (by omega))
                  · replace v1284p := v1284p.resolve_right (by omega)
                    refine s_bipush (v := 11) kx_197_139 (by decide) ?_
                    refine s_goto (t := 174) kx_197_141 (by decide) ?_
                    exact cP.wk (lS1 rfl lS0) (jn1292 11 (by omega) (by omega) (by omega))
                · have hJ1290 : Fr fS_197_j122 M1270 M1270 := Fr.refl
                  replace v1281p := v1281p.resolve_right (by omega)
                  refine s_bipush (v := 10) kx_197_125 (by decide) ?_
                  refine s_goto (t := 174) kx_197_127 (by decide) ?_
                  exact cP.wk (lS1 rfl lS0) (jn1292 10 (by omega) (by omega) (by omega))
              refine s_if_ne (t := 106) kx_197_94 (by decide) (fun hc1259 => ?_) (fun hc1259 => ?_)
              · have hJ1260 : Fr fS_197_j94 M2 M2 := Fr.refl
                replace v1258p := v1258p.resolve_right (by omega)
                refine s_iconst (v := 5) kx_197_106 (by decide) ?_
                refine s_goto (t := 112) kx_197_107 (by decide) ?_
                exact cP.wk (lS1 rfl lS0) (jn1265 5 (by omega) (by omega) (by omega))
              · have hJ1261 : Fr fS_197_j94 M2 M2 := Fr.refl
                replace v1258p := v1258p.resolve_left (by omega)
                refine s_aload_n kx_197_97 rfl ?_
                refine s_bipush (v := 45) kx_197_98 (by decide) ?_
                refine s_callV2 (k := 63) (s1 := 2) (s2 := 1) (as := [(0, 45)]) (rest := [rf 63]) kx_197_100 kp_197_283 (Or.inl rfl) rfl (tk_63 hT) ki_181 kcl_181 rfl rfl (by decide) (m_181 (d := d + 1) (c := 45) hT hI2) (kF (fun v1262 v1262p => ?_))
                refine s_if_eq (t := 110) kx_197_103 (by decide) (fun hc1263 => ?_) (fun hc1263 => ?_)
                · replace v1262p := v1262p.resolve_left (by omega)
                  refine s_bipush (v := 6) kx_197_110 (by decide) ?_
                  exact cP.wk (lS1 rfl lS0) (jn1265 6 (by omega) (by omega) (by omega))
                · replace v1262p := v1262p.resolve_right (by omega)
                  refine s_iconst (v := 5) kx_197_106 (by decide) ?_
                  refine s_goto (t := 112) kx_197_107 (by decide) ?_
                  exact cP.wk (lS1 rfl lS0) (jn1265 5 (by omega) (by omega) (by omega))
            · replace v1256p := v1256p.resolve_left (by omega)
              refine s_aload_n kx_197_78 rfl ?_
              refine s_bipush (v := 37) kx_197_79 (by decide) ?_
              refine s_callV2 (k := 63) (s1 := 2) (s2 := 0) (as := [(0, 37)]) (rest := []) kx_197_81 kp_197_283 (Or.inl rfl) rfl (tk_63 hT) ki_181 kcl_181 rfl rfl (by decide) (m_181 (d := d + 1) (c := 37) hT hI2) (kF (fun v1325 v1325p => ?_))
              refine s_if_eq (t := 188) kx_197_84 (by decide) (fun hc1326 => ?_) (fun hc1326 => ?_)
              · replace v1325p := v1325p.resolve_left (by omega)
                refine s_iload_n kx_197_188 rfl ?_
                refine s_if_eq (t := 285) kx_197_189 (by decide) (fun hc1327 => ?_) (fun hc1327 => ?_)
                · replace v15p := v15p.resolve_left (by omega)
                  refine s_iload_n kx_197_285 rfl ?_
                  refine s_if_eq (t := 400) kx_197_286 (by decide) (fun hc1328 => ?_) (fun hc1328 => absurd hc1328 (by omega))
                  refine s_iload_n kx_197_400 rfl ?_
                  refine s_if_eq (t := 422) kx_197_401 (by decide) (fun hc1329 => ?_) (fun hc1329 => absurd hc1329 (by omega))
                  refine s_iload_n kx_197_422 rfl ?_
                  refine s_iconst (v := 2) kx_197_423 (by decide) ?_
                  refine s_icmp_ge (t := 441) kx_197_424 (by decide) (fun hc1330 => ?_) (fun hc1330 => ?_)
                  · refine s_iload_n kx_197_441 rfl ?_
                    refine s_iconst (v := 3) kx_197_442 (by decide) ?_
                    refine s_icmp_eq (t := 452) kx_197_443 (by decide) (fun hc1331 => ?_) (fun hc1331 => ?_)
                    · refine s_aload_n kx_197_452 rfl ?_
                      refine s_bipush (v := 44) kx_197_453 (by decide) ?_
                      refine s_callV2 (k := 63) (s1 := 2) (s2 := 0) (as := [(0, 44)]) (rest := []) kx_197_455 kp_197_283 (Or.inl rfl) rfl (tk_63 hT) ki_181 kcl_181 rfl rfl (by decide) (m_181 (d := d + 1) (c := 44) hT hI2) (kF (fun v1332 v1332p => ?_))
                      refine s_if_ne (t := 470) kx_197_458 (by decide) (fun hc1333 => ?_) (fun hc1333 => ?_)
                      · replace v1332p := v1332p.resolve_right (by omega)
                        refine s_aload_n kx_197_470 rfl ?_
                        refine r_getK (k := 63) (f := 9) kx_197_471 kp_197_39 (tk_63 hT) kf_12_9 (fun _ => rfl) v11e ?_
                        refine s_if_le (t := 479) kx_197_474 (by decide) (fun hc1334 => ?_) (fun hc1334 => absurd hc1334 (by omega))
                        refine s_aload_n kx_197_479 rfl ?_
                        refine s_iconst (v := 1) kx_197_480 (by decide) ?_
                        refine s_callV2 (k := 63) (s1 := 2) (s2 := 0) (as := [(0, 1)]) (rest := []) kx_197_481 kp_197_370 (Or.inl rfl) rfl (tk_63 hT) ki_191 kcl_191 rfl rfl (by decide) (m_191 (d := d) (least := 1) hT hI2 (PI.fr hP fr2 rfl) (by omega) (by omega) (by omega)) (kV (fun M1336 hI1336 fr1336 v1335p => ?_))
                        have hFm1336 := hFm2.call fr1336 rfl
                        have tr1337 := (fr1336 63 3 rfl)
                        have tr1338 := (fr1336 63 4 rfl)
                        have tr1339 := (fr1336 63 5 rfl)
                        have tr1340 := (fr1336 63 9 rfl)
                        have tr1341 := (fr1336 63 42 rfl)
                        have tr1342 := rg_63_9 hI1336
                        have hd1343 := PI.deep v1335p
                        have hs1344 := PI.small v1335p (rg_63_43 hI1336).2 (by decide)
                        have hs1344a := hs1344.1
                        have hs1344b := hs1344.2.1
                        have hs1344c := rg_63_45 hI1336
                        have hk851345 : M1336 85 ((v13 - 1)).toNat = v14 := ((fr1336 85 _ rfl).trans v14e)
                        refine s_aload_n kx_197_484 rfl ?_
                        refine r_getR (k := 63) (f := 37) (k2 := 85) kx_197_485 kp_197_124 (tk_63 hT) kf_12_37 (by decide) (rq_63_37 hI1336) ?_
                        refine s_iload_n kx_197_488 rfl ?_
                        refine s_iload_n kx_197_489 rfl ?_
                        refine s_iconst (v := 3) kx_197_490 (by decide) ?_
                        refine s_icmp_ne (t := 498) kx_197_491 (by decide) (fun hc1346 => absurd hc1346 (by omega)) (fun hc1346 => ?_)
                        refine s_iconst (v := 4) kx_197_494 (by decide) ?_
                        refine s_goto (t := 499) kx_197_495 (by decide) ?_
                        refine r_ast (k := 85) kx_197_499 (tk_85 hT) ⟨by omega, by omega⟩ hI1336 (ru_85 (by omega) (by omega)) (fun M1347 hI1347 u1347 => ?_)
                        have hFm1347 := hFm1336.up u1347 rfl
                        have tr1348 := (u1347.2 63 3 (by omega))
                        have tr1349 := (u1347.2 63 4 (by omega))
                        have tr1350 := (u1347.2 63 5 (by omega))
                        have tr1351 := (u1347.2 63 9 (by omega))
                        have tr1352 := (u1347.2 63 35 (by omega))
                        have tr1353 := (u1347.2 63 42 (by omega))
                        have tr1354 := (u1347.2 63 43 (by omega))
                        have tr1355 := (u1347.2 63 45 (by omega))
                        refine s_aload_n kx_197_500 rfl ?_
                        refine r_getR (k := 63) (f := 38) (k2 := 86) kx_197_501 kp_197_127 (tk_63 hT) kf_12_38 (by decide) (rq_63_38 hI1347) ?_
                        refine s_iload_n kx_197_504 rfl ?_
                        refine s_iconst (v := 0) kx_197_505 (by decide) ?_
                        refine r_ast (k := 86) kx_197_506 (tk_86 hT) ⟨by omega, by omega⟩ hI1347 (ru_86 (by omega) (by omega)) (fun M1356 hI1356 u1356 => ?_)
                        have hFm1356 := hFm1347.up u1356 rfl
                        have tr1357 := (u1356.2 63 3 (by omega))
                        have tr1358 := (u1356.2 63 4 (by omega))
                        have tr1359 := (u1356.2 63 5 (by omega))
                        have tr1360 := (u1356.2 63 9 (by omega))
                        have tr1361 := (u1356.2 63 35 (by omega))
                        have tr1362 := (u1356.2 63 42 (by omega))
                        have tr1363 := (u1356.2 63 43 (by omega))
                        have tr1364 := (u1356.2 63 45 (by omega))
                        refine s_aload_n kx_197_507 rfl ?_
                        refine s_callV2 (k := 63) (s1 := 1) (s2 := 0) (as := []) (rest := []) kx_197_508 kp_197_286 (Or.inl rfl) rfl (tk_63 hT) ki_180 kcl_180 rfl rfl (by decide) (m_180 (d := d) hT hI1356) (kV (fun M1366 hI1366 fr1366 v1365p => ?_))
                        have hFm1366 := hFm1356.call fr1366 rfl
                        have tr1367 := (fr1366 63 9 rfl)
                        have tr1368 := (fr1366 63 35 rfl)
                        have tr1369 := (fr1366 63 42 rfl)
                        have tr1370 := (fr1366 63 43 rfl)
                        have tr1371 := (fr1366 63 45 rfl)
                        have tr1372 := rg_63_9 hI1366
                        refine s_aload_n kx_197_511 rfl ?_
                        refine s_iconst (v := 0) kx_197_512 (by decide) ?_
                        refine r_put (k := 63) (f := 46) kx_197_513 kp_197_152 (tk_63 hT) kf_12_46 rfl (by decide) (by decide) hI1366 (ru_63_46 (by omega) (by omega)) (fun M1373 hI1373 u1373 => ?_)
                        have hFm1373 := hFm1366.up u1373 rfl
                        have tr1374 := (u1373.2 63 3 (by omega))
                        have tr1375 := (u1373.2 63 4 (by omega))
                        have tr1376 := (u1373.2 63 5 (by omega))
                        have tr1377 := (u1373.2 63 9 (by omega))
                        have tr1378 := (u1373.2 63 35 (by omega))
                        have tr1379 := (u1373.2 63 42 (by omega))
                        have tr1380 := (u1373.2 63 43 (by omega))
                        have tr1381 := (u1373.2 63 45 (by omega))
                        refine s_iconst (v := 1) kx_197_516 (by decide) ?_
                        have hk1382 : M1373 63 9 = v11 := ((u1373.2 63 9 (by omega)).trans ((fr1366 63 9 rfl).trans ((u1356.2 63 9 (by omega)).trans ((u1347.2 63 9 (by omega)).trans ((fr1336 63 9 rfl).trans v11e)))))
                        exact s_iret kx_197_517 (Or.inr ⟨kq_197, by omega⟩) ⟨_, _, rfl, rfl, hI1373, hFm1373, ⟨by omega, by omega, (LXp.up (show LXp M1366 from v1365p.2) u1373 (by decide)), (by omega), (by omega), (Or.inr (Or.inr ⟨rfl, by omega, Or.inl ⟨u1373.1, PI.to7 (PI.fr (PI.fr (PI.phase (PI.comma v1335p (by omega) (by omega) u1347) (Or.inr (by omega)) (by omega) u1356) fr1366 rfl) (Up.fr u1373) rfl) (by omega)⟩⟩))⟩⟩
                      · replace v1332p := v1332p.resolve_left (by omega)
                        refine s_aload_n kx_197_461 rfl ?_
                        refine s_iconst (v := 1) kx_197_462 (by decide) ?_
                        refine s_aload_n kx_197_463 rfl ?_
                        refine r_getI (k := 63) (f := 4) kx_197_464 kp_197_23 (tk_63 hT) kf_12_4 (fun _ => rfl) (rg_63_4 hI2) (fun v1383 v1383e v1383a v1383b => ?_)
                        have v1383z : M 63 4 = v1383 := ((fr2 63 4 rfl)).symm.trans v1383e
                        refine s_callV2 (k := 63) (s1 := 3) (s2 := 0) (as := [(0, v1383), (0, 1)]) (rest := []) kx_197_467 kp_197_263 (Or.inl rfl) rfl (tk_63 hT) ki_176 kcl_176 rfl rfl (by decide) (m_176 (d := d + 1) (kind := 1) (place := v1383) hT hI2 (by omega)) (kV (fun M1385 hI1385 fr1385 v1384p => ?_))
                        have hFm1385 := hFm2.call fr1385 rfl
                        have tr1386 := (fr1385 63 3 rfl)
                        have tr1387 := (fr1385 63 4 rfl)
                        have tr1388 := (fr1385 63 5 rfl)
                        have tr1389 := (fr1385 63 35 rfl)
                        have tr1390 := (fr1385 63 42 rfl)
                        have tr1391 := (fr1385 63 43 rfl)
                        have tr1392 := (fr1385 63 45 rfl)
                        have tr1393 := rg_63_9 hI1385
                        refine s_aload_n kx_197_470 rfl ?_
                        refine r_getI (k := 63) (f := 9) kx_197_471 kp_197_39 (tk_63 hT) kf_12_9 (fun _ => rfl) (rg_63_9 hI1385) (fun v1394 v1394e v1394a v1394b => ?_)
                        refine s_if_le (t := 479) kx_197_474 (by decide) (fun hc1395 => ?_) (fun hc1395 => ?_)
                        · refine s_aload_n kx_197_479 rfl ?_
                          refine s_iconst (v := 1) kx_197_480 (by decide) ?_
                          refine s_callV2 (k := 63) (s1 := 2) (s2 := 0) (as := [(0, 1)]) (rest := []) kx_197_481 kp_197_370 (Or.inl rfl) rfl (tk_63 hT) ki_191 kcl_191 rfl rfl (by decide) (m_191 (d := d) (least := 1) hT hI1385 (PI.fr (PI.fr hP fr2 rfl) fr1385 rfl) (by omega) (by omega) (by omega)) (kV (fun M1397 hI1397 fr1397 v1396p => ?_))
                          have hFm1397 := hFm1385.call fr1397 rfl
                          have tr1398 := (fr1397 63 3 rfl)
                          have tr1399 := (fr1397 63 4 rfl)
                          have tr1400 := (fr1397 63 5 rfl)
                          have tr1401 := (fr1397 63 9 rfl)
                          have tr1402 := (fr1397 63 42 rfl)
                          have tr1403 := rg_63_9 hI1397
                          have hd1404 := PI.deep v1396p
                          have hs1405 := PI.small v1396p (rg_63_43 hI1397).2 (by decide)
                          have hs1405a := hs1405.1
                          have hs1405b := hs1405.2.1
                          have hs1405c := rg_63_45 hI1397
                          have hk851406 : M1397 85 ((v13 - 1)).toNat = v14 := ((fr1397 85 _ rfl).trans ((fr1385 85 _ rfl).trans v14e))
                          refine s_aload_n kx_197_484 rfl ?_
                          refine r_getR (k := 63) (f := 37) (k2 := 85) kx_197_485 kp_197_124 (tk_63 hT) kf_12_37 (by decide) (rq_63_37 hI1397) ?_
                          refine s_iload_n kx_197_488 rfl ?_
                          refine s_iload_n kx_197_489 rfl ?_
                          refine s_iconst (v := 3) kx_197_490 (by decide) ?_
                          refine s_icmp_ne (t := 498) kx_197_491 (by decide) (fun hc1407 => absurd hc1407 (by omega)) (fun hc1407 => ?_)
                          refine s_iconst (v := 4) kx_197_494 (by decide) ?_
                          refine s_goto (t := 499) kx_197_495 (by decide) ?_
                          refine r_ast (k := 85) kx_197_499 (tk_85 hT) ⟨by omega, by omega⟩ hI1397 (ru_85 (by omega) (by omega)) (fun M1408 hI1408 u1408 => ?_)
                          have hFm1408 := hFm1397.up u1408 rfl
                          have tr1409 := (u1408.2 63 3 (by omega))
                          have tr1410 := (u1408.2 63 4 (by omega))
                          have tr1411 := (u1408.2 63 5 (by omega))
                          have tr1412 := (u1408.2 63 9 (by omega))
                          have tr1413 := (u1408.2 63 35 (by omega))
                          have tr1414 := (u1408.2 63 42 (by omega))
                          have tr1415 := (u1408.2 63 43 (by omega))
                          have tr1416 := (u1408.2 63 45 (by omega))
                          refine s_aload_n kx_197_500 rfl ?_
                          refine r_getR (k := 63) (f := 38) (k2 := 86) kx_197_501 kp_197_127 (tk_63 hT) kf_12_38 (by decide) (rq_63_38 hI1408) ?_
                          refine s_iload_n kx_197_504 rfl ?_
                          refine s_iconst (v := 0) kx_197_505 (by decide) ?_
                          refine r_ast (k := 86) kx_197_506 (tk_86 hT) ⟨by omega, by omega⟩ hI1408 (ru_86 (by omega) (by omega)) (fun M1417 hI1417 u1417 => ?_)
                          have hFm1417 := hFm1408.up u1417 rfl
                          have tr1418 := (u1417.2 63 3 (by omega))
                          have tr1419 := (u1417.2 63 4 (by omega))
                          have tr1420 := (u1417.2 63 5 (by omega))
                          have tr1421 := (u1417.2 63 9 (by omega))
                          have tr1422 := (u1417.2 63 35 (by omega))
                          have tr1423 := (u1417.2 63 42 (by omega))
                          have tr1424 := (u1417.2 63 43 (by omega))
                          have tr1425 := (u1417.2 63 45 (by omega))
                          refine s_aload_n kx_197_507 rfl ?_
                          refine s_callV2 (k := 63) (s1 := 1) (s2 := 0) (as := []) (rest := []) kx_197_508 kp_197_286 (Or.inl rfl) rfl (tk_63 hT) ki_180 kcl_180 rfl rfl (by decide) (m_180 (d := d) hT hI1417) (kV (fun M1427 hI1427 fr1427 v1426p => ?_))
                          have hFm1427 := hFm1417.call fr1427 rfl
                          have tr1428 := (fr1427 63 9 rfl)
                          have tr1429 := (fr1427 63 35 rfl)
                          have tr1430 := (fr1427 63 42 rfl)
                          have tr1431 := (fr1427 63 43 rfl)
                          have tr1432 := (fr1427 63 45 rfl)
                          have tr1433 := rg_63_9 hI1427
                          refine s_aload_n kx_197_511 rfl ?_
                          refine s_iconst (v := 0) kx_197_512 (by decide) ?_
                          refine r_put (k := 63) (f := 46) kx_197_513 kp_197_152 (tk_63 hT) kf_12_46 rfl (by decide) (by decide) hI1427 (ru_63_46 (by omega) (by omega)) (fun M1434 hI1434 u1434 => ?_)
                          have hFm1434 := hFm1427.up u1434 rfl
                          have tr1435 := (u1434.2 63 3 (by omega))
                          have tr1436 := (u1434.2 63 4 (by omega))
                          have tr1437 := (u1434.2 63 5 (by omega))
                          have tr1438 := (u1434.2 63 9 (by omega))
                          have tr1439 := (u1434.2 63 35 (by omega))
                          have tr1440 := (u1434.2 63 42 (by omega))
                          have tr1441 := (u1434.2 63 43 (by omega))
                          have tr1442 := (u1434.2 63 45 (by omega))
                          refine s_iconst (v := 1) kx_197_516 (by decide) ?_
                          have hk1443 : M1434 63 9 = v1394 := ((u1434.2 63 9 (by omega)).trans ((fr1427 63 9 rfl).trans ((u1417.2 63 9 (by omega)).trans ((u1408.2 63 9 (by omega)).trans ((fr1397 63 9 rfl).trans v1394e)))))
                          exact s_iret kx_197_517 (Or.inr ⟨kq_197, by omega⟩) ⟨_, _, rfl, rfl, hI1434, hFm1434, ⟨by omega, by omega, (LXp.up (show LXp M1427 from v1426p.2) u1434 (by decide)), (by omega), (by omega), (Or.inr (Or.inr ⟨rfl, by omega, Or.inl ⟨u1434.1, PI.to7 (PI.fr (PI.fr (PI.phase (PI.comma v1396p (by omega) (by omega) u1408) (Or.inr (by omega)) (by omega) u1417) fr1427 rfl) (Up.fr u1434) rfl) (by omega)⟩⟩))⟩⟩
                        · refine s_iconst (v := 0) kx_197_477 (by decide) ?_
                          have hk1444 : M1385 63 4 = v1383 := ((fr1385 63 4 rfl).trans v1383e)
                          have hk1445 : M1385 63 9 = v1394 := v1394e
                          exact s_iret kx_197_478 (Or.inr ⟨kq_197, by omega⟩) ⟨_, _, rfl, rfl, hI1385, hFm1385, ⟨by omega, by omega, (LXp.fr (LXp.fr hX fr2 rfl) fr1385 rfl), (by omega), (by omega), (Or.inl (by omega))⟩⟩
                    · refine s_iload_n kx_197_446 rfl ?_
                      refine s_bipush (v := 6) kx_197_447 (by decide) ?_
                      refine s_icmp_ne (t := 518) kx_197_449 (by decide) (fun hc1446 => ?_) (fun hc1446 => ?_)
                      · refine s_aload_n kx_197_518 rfl ?_
                        refine s_iload_n kx_197_519 rfl ?_
                        refine s_iconst (v := 5) kx_197_520 (by decide) ?_
                        have jn1451 : ∀ (y1450 : Int), (41 ≤ y1450) → (y1450 ≤ 93) → cP k_P xs Ln (d + 2) 197 531 [(0, rf 63), (1, (0, (v13 - 1))), (2, (0, v14))] [(0, y1450), rf 63] (T, M2) (qW T M fS_197_m 0 (fun v M1 => 0 ≤ v ∧ v ≤ 1 ∧ (LXp M1 ∧ M 63 4 ≤ M1 63 4 ∧ M 63 9 ≤ M1 63 9 ∧ (GOd M M1 c a v)))) := by
                          intro y1450 a1452 a1453
                          refine s_callV2 (k := 63) (s1 := 2) (s2 := 0) (as := [(0, y1450)]) (rest := []) kx_197_531 kp_197_283 (Or.inl rfl) rfl (tk_63 hT) ki_181 kcl_181 rfl rfl (by decide) (m_181 (d := d + 1) (c := y1450) hT hI2) (kF (fun v1454 v1454p => ?_))
                          refine s_if_ne (t := 546) kx_197_534 (by decide) (fun hc1455 => ?_) (fun hc1455 => ?_)
                          · replace v1454p := v1454p.resolve_right (by omega)
                            refine s_aload_n kx_197_546 rfl ?_
                            refine r_getK (k := 63) (f := 9) kx_197_547 kp_197_39 (tk_63 hT) kf_12_9 (fun _ => rfl) v11e ?_
                            refine s_if_le (t := 555) kx_197_550 (by decide) (fun hc1456 => ?_) (fun hc1456 => absurd hc1456 (by omega))
                            refine s_aload_n kx_197_555 rfl ?_
                            refine s_iconst (v := 1) kx_197_556 (by decide) ?_
                            refine s_callV2 (k := 63) (s1 := 2) (s2 := 0) (as := [(0, 1)]) (rest := []) kx_197_557 kp_197_370 (Or.inl rfl) rfl (tk_63 hT) ki_191 kcl_191 rfl rfl (by decide) (m_191 (d := d) (least := 1) hT hI2 (PI.fr hP fr2 rfl) (by omega) (by omega) (by omega)) (kV (fun M1458 hI1458 fr1458 v1457p => ?_))
                            have hFm1458 := hFm2.call fr1458 rfl
                            have tr1459 := (fr1458 63 3 rfl)
                            have tr1460 := (fr1458 63 4 rfl)
                            have tr1461 := (fr1458 63 5 rfl)
                            have tr1462 := (fr1458 63 9 rfl)
                            have tr1463 := (fr1458 63 42 rfl)
                            have tr1464 := rg_63_9 hI1458
                            have hd1465 := PI.deep v1457p
                            have hs1466 := PI.small v1457p (rg_63_43 hI1458).2 (by decide)
                            have hs1466a := hs1466.1
                            have hs1466b := hs1466.2.1
                            have hs1466c := rg_63_45 hI1458
                            refine s_aload_n kx_197_560 rfl ?_
                            refine s_dup kx_197_561 rfl ?_
                            refine r_getK (k := 63) (f := 42) kx_197_562 kp_197_140 (tk_63 hT) kf_12_42 (fun _ => rfl) ((fr1458 63 42 rfl).trans v13e) ?_
                            refine s_iconst (v := 1) kx_197_565 (by decide) ?_
                            refine r_sub kx_197_566 ⟨by omega, by omega⟩ ?_
                            refine r_put (k := 63) (f := 42) kx_197_567 kp_197_140 (tk_63 hT) kf_12_42 rfl (by decide) (by decide) hI1458 (ru_63_42 (by omega) (by omega)) (fun M1467 hI1467 u1467 => ?_)
                            have hFm1467 := hFm1458.up u1467 rfl
                            have tr1468 := (u1467.2 63 3 (by omega))
                            have tr1469 := (u1467.2 63 4 (by omega))
                            have tr1470 := (u1467.2 63 5 (by omega))
                            have tr1471 := (u1467.2 63 9 (by omega))
                            have tr1472 := (u1467.2 63 35 (by omega))
                            have tr1473 := u1467.1
                            have tr1474 := (u1467.2 63 43 (by omega))
                            have tr1475 := (u1467.2 63 45 (by omega))
                            have hcl1476 := PI.close v1457p (by decide) (f := (v13 - 1)) (by omega) ((fr1458 85 _ rfl).trans v14e) (by omega) u1467 (by omega)
                            have hcl1476d := hcl1476.2.2.1
                            have hcl1476q := PI.deep hcl1476.1
                            refine s_aload_n kx_197_570 rfl ?_
                            refine s_dup kx_197_571 rfl ?_
                            refine r_getI (k := 63) (f := 43) kx_197_572 kp_197_143 (tk_63 hT) kf_12_43 (fun _ => rfl) (rg_63_43 hI1467) (fun v1477 v1477e v1477a v1477b => ?_)
                            refine s_iconst (v := 1) kx_197_575 (by decide) ?_
                            refine r_sub kx_197_576 ⟨by omega, by omega⟩ ?_
                            have hcl1476e := PI.e_le hcl1476.1
                            refine r_put (k := 63) (f := 43) kx_197_577 kp_197_143 (tk_63 hT) kf_12_43 rfl (by decide) (by decide) hI1467 (ru_63_43 (by omega) (by omega)) (fun M1478 hI1478 u1478 => ?_)
                            have hFm1478 := hFm1467.up u1478 rfl
                            have tr1479 := (u1478.2 63 3 (by omega))
                            have tr1480 := (u1478.2 63 4 (by omega))
                            have tr1481 := (u1478.2 63 5 (by omega))
                            have tr1482 := (u1478.2 63 9 (by omega))
                            have tr1483 := (u1478.2 63 35 (by omega))
                            have tr1484 := (u1478.2 63 42 (by omega))
                            have tr1485 := u1478.1
                            have tr1486 := (u1478.2 63 45 (by omega))
                            have hP1487 := (PI.opn (e' := 0) hcl1476.1 u1478 (by omega))
                            refine s_iload_n kx_197_580 rfl ?_
                            refine s_iconst (v := 4) kx_197_581 (by decide) ?_
                            refine s_icmp_ne (t := 596) kx_197_582 (by decide) (fun hc1488 => ?_) (fun hc1488 => ?_)
                            · have hP1489 := PI.comp0 hP1487 (by omega)
                              refine s_iload_n kx_197_596 rfl ?_
                              refine s_iconst (v := 5) kx_197_597 (by decide) ?_
                              refine s_icmp_ne (t := 613) kx_197_598 (by decide) (fun hc1490 => ?_) (fun hc1490 => ?_)
                              · refine s_aload_n kx_197_613 rfl ?_
                                refine s_callV2 (k := 63) (s1 := 1) (s2 := 0) (as := []) (rest := []) kx_197_614 kp_197_286 (Or.inl rfl) rfl (tk_63 hT) ki_180 kcl_180 rfl rfl (by decide) (m_180 (d := d) hT hI1478) (kV (fun M1492 hI1492 fr1492 v1491p => ?_))
                                have hFm1492 := hFm1478.call fr1492 rfl
                                have tr1493 := (fr1492 63 9 rfl)
                                have tr1494 := (fr1492 63 35 rfl)
                                have tr1495 := (fr1492 63 42 rfl)
                                have tr1496 := (fr1492 63 43 rfl)
                                have tr1497 := (fr1492 63 45 rfl)
                                have tr1498 := rg_63_9 hI1492
                                refine s_iconst (v := 1) kx_197_617 (by decide) ?_
                                have hk1499 : M1492 63 9 = v11 := ((fr1492 63 9 rfl).trans ((u1478.2 63 9 (by omega)).trans ((u1467.2 63 9 (by omega)).trans ((fr1458 63 9 rfl).trans v11e))))
                                exact s_iret kx_197_618 (Or.inr ⟨kq_197, by omega⟩) ⟨_, _, rfl, rfl, hI1492, hFm1492, ⟨by omega, by omega, (show LXp M1492 from v1491p.2), (by omega), (by omega), (Or.inr (Or.inr ⟨rfl, by omega, Or.inr ⟨((fr1492 63 46 rfl).trans ((u1478.2 63 46 (by omega)).trans ((u1467.2 63 46 (by omega)).trans ((fr1458 63 46 rfl).trans (fr2 63 46 rfl))))), (B0.fr (B0.up (show B0 M1467 from hcl1476.2.1) u1478 (by decide)) fr1492 rfl (fun _ => rfl)), PI.to7 (PI.fr hP1489 fr1492 rfl) (by omega)⟩⟩))⟩⟩
                              · refine s_aload_n kx_197_601 rfl ?_
                                refine r_getR (k := 63) (f := 38) (k2 := 86) kx_197_602 kp_197_127 (tk_63 hT) kf_12_38 (by decide) (rq_63_38 hI1478) ?_
                                refine s_aload_n kx_197_605 rfl ?_
                                refine r_getK (k := 63) (f := 42) kx_197_606 kp_197_140 (tk_63 hT) kf_12_42 (fun _ => rfl) ((u1478.2 63 42 (by omega)).trans u1467.1) ?_
                                refine s_iconst (v := 1) kx_197_609 (by decide) ?_
                                refine r_sub kx_197_610 ⟨by omega, by omega⟩ ?_
                                refine s_iconst (v := 2) kx_197_611 (by decide) ?_
                                refine r_ast (k := 86) kx_197_612 (tk_86 hT) ⟨by omega, by omega⟩ hI1478 (ru_86 (by omega) (by omega)) (fun M1500 hI1500 u1500 => ?_)
                                have hFm1500 := hFm1478.up u1500 rfl
                                have tr1501 := (u1500.2 63 3 (by omega))
                                have tr1502 := (u1500.2 63 4 (by omega))
                                have tr1503 := (u1500.2 63 5 (by omega))
                                have tr1504 := (u1500.2 63 9 (by omega))
                                have tr1505 := (u1500.2 63 35 (by omega))
                                have tr1506 := (u1500.2 63 42 (by omega))
                                have tr1507 := (u1500.2 63 43 (by omega))
                                have tr1508 := (u1500.2 63 45 (by omega))
                                refine s_aload_n kx_197_613 rfl ?_
                                refine s_callV2 (k := 63) (s1 := 1) (s2 := 0) (as := []) (rest := []) kx_197_614 kp_197_286 (Or.inl rfl) rfl (tk_63 hT) ki_180 kcl_180 rfl rfl (by decide) (m_180 (d := d) hT hI1500) (kV (fun M1510 hI1510 fr1510 v1509p => ?_))
                                have hFm1510 := hFm1500.call fr1510 rfl
                                have tr1511 := (fr1510 63 9 rfl)
                                have tr1512 := (fr1510 63 35 rfl)
                                have tr1513 := (fr1510 63 42 rfl)
                                have tr1514 := (fr1510 63 43 rfl)
                                have tr1515 := (fr1510 63 45 rfl)
                                have tr1516 := rg_63_9 hI1510
                                refine s_iconst (v := 1) kx_197_617 (by decide) ?_
                                have hk1517 : M1510 63 9 = v11 := ((fr1510 63 9 rfl).trans ((u1500.2 63 9 (by omega)).trans ((u1478.2 63 9 (by omega)).trans ((u1467.2 63 9 (by omega)).trans ((fr1458 63 9 rfl).trans v11e)))))
                                exact s_iret kx_197_618 (Or.inr ⟨kq_197, by omega⟩) ⟨_, _, rfl, rfl, hI1510, hFm1510, ⟨by omega, by omega, (show LXp M1510 from v1509p.2), (by omega), (by omega), (Or.inr (Or.inr ⟨rfl, by omega, Or.inr ⟨((fr1510 63 46 rfl).trans ((u1500.2 63 46 (by omega)).trans ((u1478.2 63 46 (by omega)).trans ((u1467.2 63 46 (by omega)).trans ((fr1458 63 46 rfl).trans (fr2 63 46 rfl)))))), (B0.fr (B0.up (B0.up (show B0 M1467 from hcl1476.2.1) u1478 (by decide)) u1500 ⟨by decide, Or.inl (by decide)⟩) fr1510 rfl (fun _ => rfl)), PI.to7 (PI.fr (PI.phase hP1489 (Or.inl (by decide)) (by omega) u1500) fr1510 rfl) (by omega)⟩⟩))⟩⟩
                            · refine s_aload_n kx_197_585 rfl ?_
                              refine s_aload_n kx_197_586 rfl ?_
                              refine r_getR (k := 63) (f := 40) (k2 := 88) kx_197_587 kp_197_134 (tk_63 hT) kf_12_40 (by decide) (rq_63_40 hI1478) ?_
                              refine s_iload_n kx_197_590 rfl ?_
                              refine r_ald (k := 88) kx_197_591 (tk_88 hT) ⟨by omega, by omega⟩ (rg_88 hI1478) (fun v1518 v1518e v1518a v1518b => ?_)
                              have hpr1519 : v1518 = M1458 88 ((v13 - 1)).toNat := (v1518e).symm.trans ((u1478.2 88 _ (by omega)).trans (u1467.2 88 _ (by omega)))
                              refine s_iconst (v := 0) kx_197_592 (by decide) ?_
                              refine s_callV2 (k := 63) (s1 := 3) (s2 := 0) (as := [(0, 0), (0, v1518)]) (rest := []) kx_197_593 kp_197_352 (Or.inl rfl) rfl (tk_63 hT) ki_189 kcl_189 rfl rfl (by decide) (m_189 (d := d + 1) (sort := v1518) (v_ := 0) hT hI1478 (by omega) (by omega)) (kV (fun M1521 hI1521 fr1521 v1520p => ?_))
                              have hFm1521 := hFm1478.call fr1521 rfl
                              have tr1522 := (fr1521 63 3 rfl)
                              have tr1523 := (fr1521 63 4 rfl)
                              have tr1524 := (fr1521 63 5 rfl)
                              have tr1525 := (fr1521 63 9 rfl)
                              have tr1526 := (fr1521 63 42 rfl)
                              have tr1527 := (fr1521 63 43 rfl)
                              have tr1528 := (fr1521 63 45 rfl)
                              have tr1529 := rg_63_9 hI1521
                              have hP1530 := PI.code4 hP1487 (by omega) (hcl1476.2.2.2 (by omega)) fr1521 v1520p.1 (v1520p.2.1.trans hpr1519) v1520p.2.2
                              refine s_iload_n kx_197_596 rfl ?_
                              refine s_iconst (v := 5) kx_197_597 (by decide) ?_
                              refine s_icmp_ne (t := 613) kx_197_598 (by decide) (fun hc1531 => ?_) (fun hc1531 => absurd hc1531 (by omega))
                              refine s_aload_n kx_197_613 rfl ?_
                              refine s_callV2 (k := 63) (s1 := 1) (s2 := 0) (as := []) (rest := []) kx_197_614 kp_197_286 (Or.inl rfl) rfl (tk_63 hT) ki_180 kcl_180 rfl rfl (by decide) (m_180 (d := d) hT hI1521) (kV (fun M1533 hI1533 fr1533 v1532p => ?_))
                              have hFm1533 := hFm1521.call fr1533 rfl
                              have tr1534 := (fr1533 63 9 rfl)
                              have tr1535 := (fr1533 63 35 rfl)
                              have tr1536 := (fr1533 63 42 rfl)
                              have tr1537 := (fr1533 63 43 rfl)
                              have tr1538 := (fr1533 63 45 rfl)
                              have tr1539 := rg_63_9 hI1533
                              refine s_iconst (v := 1) kx_197_617 (by decide) ?_
                              have hk1540 : M1533 63 9 = v11 := ((fr1533 63 9 rfl).trans ((fr1521 63 9 rfl).trans ((u1478.2 63 9 (by omega)).trans ((u1467.2 63 9 (by omega)).trans ((fr1458 63 9 rfl).trans v11e)))))
                              exact s_iret kx_197_618 (Or.inr ⟨kq_197, by omega⟩) ⟨_, _, rfl, rfl, hI1533, hFm1533, ⟨by omega, by omega, (show LXp M1533 from v1532p.2), (by omega), (by omega), (Or.inr (Or.inr ⟨rfl, by omega, Or.inr ⟨((fr1533 63 46 rfl).trans ((fr1521 63 46 rfl).trans ((u1478.2 63 46 (by omega)).trans ((u1467.2 63 46 (by omega)).trans ((fr1458 63 46 rfl).trans (fr2 63 46 rfl)))))), (B0.fr (B0.fr (B0.up (show B0 M1467 from hcl1476.2.1) u1478 (by decide)) fr1521 rfl (fun _ => rfl)) fr1533 rfl (fun _ => rfl)), PI.to7 (PI.fr hP1530 fr1533 rfl) (by omega)⟩⟩))⟩⟩
                          · replace v1454p := v1454p.resolve_left (by omega)
                            refine s_aload_n kx_197_537 rfl ?_
                            refine s_iconst (v := 1) kx_197_538 (by decide) ?_
                            refine s_aload_n kx_197_539 rfl ?_
                            refine r_getI (k := 63) (f := 4) kx_197_540 kp_197_23 (tk_63 hT) kf_12_4 (fun _ => rfl) (rg_63_4 hI2) (fun v1541 v1541e v1541a v1541b => ?_)
                            have v1541z : M 63 4 = v1541 := ((fr2 63 4 rfl)).symm.trans v1541e
                            refine s_callV2 (k := 63) (s1 := 3) (s2 := 0) (as := [(0, v1541), (0, 1)]) (rest := []) kx_197_543 kp_197_263 (Or.inl rfl) rfl (tk_63 hT) ki_176 kcl_176 rfl rfl (by decide) (m_176 (d := d + 1) (kind := 1) (place := v1541) hT hI2 (by omega)) (kV (fun M1543 hI1543 fr1543 v1542p => ?_))
                            have hFm1543 := hFm2.call fr1543 rfl
                            have tr1544 := (fr1543 63 3 rfl)
                            have tr1545 := (fr1543 63 4 rfl)
                            have tr1546 := (fr1543 63 5 rfl)
                            have tr1547 := (fr1543 63 35 rfl)
                            have tr1548 := (fr1543 63 42 rfl)
                            have tr1549 := (fr1543 63 43 rfl)
                            have tr1550 := (fr1543 63 45 rfl)
                            have tr1551 := rg_63_9 hI1543
                            refine s_aload_n kx_197_546 rfl ?_
                            refine r_getI (k := 63) (f := 9) kx_197_547 kp_197_39 (tk_63 hT) kf_12_9 (fun _ => rfl) (rg_63_9 hI1543) (fun v1552 v1552e v1552a v1552b => ?_)
                            refine s_if_le (t := 555) kx_197_550 (by decide) (fun hc1553 => ?_) (fun hc1553 => ?_)
                            · refine s_aload_n kx_197_555 rfl ?_
                              refine s_iconst (v := 1) kx_197_556 (by decide) ?_
                              refine s_callV2 (k := 63) (s1 := 2) (s2 := 0) (as := [(0, 1)]) (rest := []) kx_197_557 kp_197_370 (Or.inl rfl) rfl (tk_63 hT) ki_191 kcl_191 rfl rfl (by decide) (m_191 (d := d) (least := 1) hT hI1543 (PI.fr (PI.fr hP fr2 rfl) fr1543 rfl) (by omega) (by omega) (by omega)) (kV (fun M1555 hI1555 fr1555 v1554p => ?_))
                              have hFm1555 := hFm1543.call fr1555 rfl
                              have tr1556 := (fr1555 63 3 rfl)
                              have tr1557 := (fr1555 63 4 rfl)
                              have tr1558 := (fr1555 63 5 rfl)
                              have tr1559 := (fr1555 63 9 rfl)
                              have tr1560 := (fr1555 63 42 rfl)
                              have tr1561 := rg_63_9 hI1555
                              have hd1562 := PI.deep v1554p
                              have hs1563 := PI.small v1554p (rg_63_43 hI1555).2 (by decide)
                              have hs1563a := hs1563.1
                              have hs1563b := hs1563.2.1
                              have hs1563c := rg_63_45 hI1555
                              refine s_aload_n kx_197_560 rfl ?_
                              refine s_dup kx_197_561 rfl ?_
                              refine r_getK (k := 63) (f := 42) kx_197_562 kp_197_140 (tk_63 hT) kf_12_42 (fun _ => rfl) ((fr1555 63 42 rfl).trans ((fr1543 63 42 rfl).trans v13e)) ?_
                              refine s_iconst (v := 1) kx_197_565 (by decide) ?_
                              refine r_sub kx_197_566 ⟨by omega, by omega⟩ ?_
                              refine r_put (k := 63) (f := 42) kx_197_567 kp_197_140 (tk_63 hT) kf_12_42 rfl (by decide) (by decide) hI1555 (ru_63_42 (by omega) (by omega)) (fun M1564 hI1564 u1564 => ?_)
                              have hFm1564 := hFm1555.up u1564 rfl
                              have tr1565 := (u1564.2 63 3 (by omega))
                              have tr1566 := (u1564.2 63 4 (by omega))
                              have tr1567 := (u1564.2 63 5 (by omega))
                              have tr1568 := (u1564.2 63 9 (by omega))
                              have tr1569 := (u1564.2 63 35 (by omega))
                              have tr1570 := u1564.1
                              have tr1571 := (u1564.2 63 43 (by omega))
                              have tr1572 := (u1564.2 63 45 (by omega))
                              have hcl1573 := PI.close v1554p (by decide) (f := (v13 - 1)) (by omega) ((fr1555 85 _ rfl).trans ((fr1543 85 _ rfl).trans v14e)) (by omega) u1564 (by omega)
                              have hcl1573d := hcl1573.2.2.1
                              have hcl1573q := PI.deep hcl1573.1
                              refine s_aload_n kx_197_570 rfl ?_
                              refine s_dup kx_197_571 rfl ?_
                              refine r_getI (k := 63) (f := 43) kx_197_572 kp_197_143 (tk_63 hT) kf_12_43 (fun _ => rfl) (rg_63_43 hI1564) (fun v1574 v1574e v1574a v1574b => ?_)
                              refine s_iconst (v := 1) kx_197_575 (by decide) ?_
                              refine r_sub kx_197_576 ⟨by omega, by omega⟩ ?_
                              have hcl1573e := PI.e_le hcl1573.1
                              refine r_put (k := 63) (f := 43) kx_197_577 kp_197_143 (tk_63 hT) kf_12_43 rfl (by decide) (by decide) hI1564 (ru_63_43 (by omega) (by omega)) (fun M1575 hI1575 u1575 => ?_)
                              have hFm1575 := hFm1564.up u1575 rfl
                              have tr1576 := (u1575.2 63 3 (by omega))
                              have tr1577 := (u1575.2 63 4 (by omega))
                              have tr1578 := (u1575.2 63 5 (by omega))
                              have tr1579 := (u1575.2 63 9 (by omega))
                              have tr1580 := (u1575.2 63 35 (by omega))
                              have tr1581 := (u1575.2 63 42 (by omega))
                              have tr1582 := u1575.1
                              have tr1583 := (u1575.2 63 45 (by omega))
                              have hP1584 := (PI.opn (e' := 0) hcl1573.1 u1575 (by omega))
                              refine s_iload_n kx_197_580 rfl ?_
                              refine s_iconst (v := 4) kx_197_581 (by decide) ?_
                              refine s_icmp_ne (t := 596) kx_197_582 (by decide) (fun hc1585 => ?_) (fun hc1585 => ?_)
                              · have hP1586 := PI.comp0 hP1584 (by omega)
                                refine s_iload_n kx_197_596 rfl ?_
                                refine s_iconst (v := 5) kx_197_597 (by decide) ?_
                                refine s_icmp_ne (t := 613) kx_197_598 (by decide) (fun hc1587 => ?_) (fun hc1587 => ?_)
                                · refine s_aload_n kx_197_613 rfl ?_
                                  refine s_callV2 (k := 63) (s1 := 1) (s2 := 0) (as := []) (rest := []) kx_197_614 kp_197_286 (Or.inl rfl) rfl (tk_63 hT) ki_180 kcl_180 rfl rfl (by decide) (m_180 (d := d) hT hI1575) (kV (fun M1589 hI1589 fr1589 v1588p => ?_))
                                  have hFm1589 := hFm1575.call fr1589 rfl
                                  have tr1590 := (fr1589 63 9 rfl)
                                  have tr1591 := (fr1589 63 35 rfl)
                                  have tr1592 := (fr1589 63 42 rfl)
                                  have tr1593 := (fr1589 63 43 rfl)
                                  have tr1594 := (fr1589 63 45 rfl)
                                  have tr1595 := rg_63_9 hI1589
                                  refine s_iconst (v := 1) kx_197_617 (by decide) ?_
                                  have hk1596 : M1589 63 9 = v1552 := ((fr1589 63 9 rfl).trans ((u1575.2 63 9 (by omega)).trans ((u1564.2 63 9 (by omega)).trans ((fr1555 63 9 rfl).trans v1552e))))
                                  exact s_iret kx_197_618 (Or.inr ⟨kq_197, by omega⟩) ⟨_, _, rfl, rfl, hI1589, hFm1589, ⟨by omega, by omega, (show LXp M1589 from v1588p.2), (by omega), (by omega), (Or.inr (Or.inr ⟨rfl, by omega, Or.inr ⟨((fr1589 63 46 rfl).trans ((u1575.2 63 46 (by omega)).trans ((u1564.2 63 46 (by omega)).trans ((fr1555 63 46 rfl).trans ((fr1543 63 46 rfl).trans (fr2 63 46 rfl)))))), (B0.fr (B0.up (show B0 M1564 from hcl1573.2.1) u1575 (by decide)) fr1589 rfl (fun _ => rfl)), PI.to7 (PI.fr hP1586 fr1589 rfl) (by omega)⟩⟩))⟩⟩
                                · refine s_aload_n kx_197_601 rfl ?_
                                  refine r_getR (k := 63) (f := 38) (k2 := 86) kx_197_602 kp_197_127 (tk_63 hT) kf_12_38 (by decide) (rq_63_38 hI1575) ?_
                                  refine s_aload_n kx_197_605 rfl ?_
                                  refine r_getK (k := 63) (f := 42) kx_197_606 kp_197_140 (tk_63 hT) kf_12_42 (fun _ => rfl) ((u1575.2 63 42 (by omega)).trans u1564.1) ?_
                                  refine s_iconst (v := 1) kx_197_609 (by decide) ?_
                                  refine r_sub kx_197_610 ⟨by omega, by omega⟩ ?_
                                  refine s_iconst (v := 2) kx_197_611 (by decide) ?_
                                  refine r_ast (k := 86) kx_197_612 (tk_86 hT) ⟨by omega, by omega⟩ hI1575 (ru_86 (by omega) (by omega)) (fun M1597 hI1597 u1597 => ?_)
                                  have hFm1597 := hFm1575.up u1597 rfl
                                  have tr1598 := (u1597.2 63 3 (by omega))
                                  have tr1599 := (u1597.2 63 4 (by omega))
                                  have tr1600 := (u1597.2 63 5 (by omega))
                                  have tr1601 := (u1597.2 63 9 (by omega))
                                  have tr1602 := (u1597.2 63 35 (by omega))
                                  have tr1603 := (u1597.2 63 42 (by omega))
                                  have tr1604 := (u1597.2 63 43 (by omega))
                                  have tr1605 := (u1597.2 63 45 (by omega))
                                  refine s_aload_n kx_197_613 rfl ?_
                                  refine s_callV2 (k := 63) (s1 := 1) (s2 := 0) (as := []) (rest := []) kx_197_614 kp_197_286 (Or.inl rfl) rfl (tk_63 hT) ki_180 kcl_180 rfl rfl (by decide) (m_180 (d := d) hT hI1597) (kV (fun M1607 hI1607 fr1607 v1606p => ?_))
                                  have hFm1607 := hFm1597.call fr1607 rfl
                                  have tr1608 := (fr1607 63 9 rfl)
                                  have tr1609 := (fr1607 63 35 rfl)
                                  have tr1610 := (fr1607 63 42 rfl)
                                  have tr1611 := (fr1607 63 43 rfl)
                                  have tr1612 := (fr1607 63 45 rfl)
                                  have tr1613 := rg_63_9 hI1607
                                  refine s_iconst (v := 1) kx_197_617 (by decide) ?_
                                  have hk1614 : M1607 63 9 = v1552 := ((fr1607 63 9 rfl).trans ((u1597.2 63 9 (by omega)).trans ((u1575.2 63 9 (by omega)).trans ((u1564.2 63 9 (by omega)).trans ((fr1555 63 9 rfl).trans v1552e)))))
                                  exact s_iret kx_197_618 (Or.inr ⟨kq_197, by omega⟩) ⟨_, _, rfl, rfl, hI1607, hFm1607, ⟨by omega, by omega, (show LXp M1607 from v1606p.2), (by omega), (by omega), (Or.inr (Or.inr ⟨rfl, by omega, Or.inr ⟨((fr1607 63 46 rfl).trans ((u1597.2 63 46 (by omega)).trans ((u1575.2 63 46 (by omega)).trans ((u1564.2 63 46 (by omega)).trans ((fr1555 63 46 rfl).trans ((fr1543 63 46 rfl).trans (fr2 63 46 rfl))))))), (B0.fr (B0.up (B0.up (show B0 M1564 from hcl1573.2.1) u1575 (by decide)) u1597 ⟨by decide, Or.inl (by decide)⟩) fr1607 rfl (fun _ => rfl)), PI.to7 (PI.fr (PI.phase hP1586 (Or.inl (by decide)) (by omega) u1597) fr1607 rfl) (by omega)⟩⟩))⟩⟩
                              · refine s_aload_n kx_197_585 rfl ?_
                                refine s_aload_n kx_197_586 rfl ?_
                                refine r_getR (k := 63) (f := 40) (k2 := 88) kx_197_587 kp_197_134 (tk_63 hT) kf_12_40 (by decide) (rq_63_40 hI1575) ?_
                                refine s_iload_n kx_197_590 rfl ?_
                                refine r_ald (k := 88) kx_197_591 (tk_88 hT) ⟨by omega, by omega⟩ (rg_88 hI1575) (fun v1615 v1615e v1615a v1615b => ?_)
                                have hpr1616 : v1615 = M1555 88 ((v13 - 1)).toNat := (v1615e).symm.trans ((u1575.2 88 _ (by omega)).trans (u1564.2 88 _ (by omega)))
                                refine s_iconst (v := 0) kx_197_592 (by decide) ?_
                                refine s_callV2 (k := 63) (s1 := 3) (s2 := 0) (as := [(0, 0), (0, v1615)]) (rest := []) kx_197_593 kp_197_352 (Or.inl rfl) rfl (tk_63 hT) ki_189 kcl_189 rfl rfl (by decide) (m_189 (d := d + 1) (sort := v1615) (v_ := 0) hT hI1575 (by omega) (by omega)) (kV (fun M1618 hI1618 fr1618 v1617p => ?_))
                                have hFm1618 := hFm1575.call fr1618 rfl
                                have tr1619 := (fr1618 63 3 rfl)
                                have tr1620 := (fr1618 63 4 rfl)
                                have tr1621 := (fr1618 63 5 rfl)
                                have tr1622 := (fr1618 63 9 rfl)
                                have tr1623 := (fr1618 63 42 rfl)
                                have tr1624 := (fr1618 63 43 rfl)
                                have tr1625 := (fr1618 63 45 rfl)
                                have tr1626 := rg_63_9 hI1618
                                have hP1627 := PI.code4 hP1584 (by omega) (hcl1573.2.2.2 (by omega)) fr1618 v1617p.1 (v1617p.2.1.trans hpr1616) v1617p.2.2
                                refine s_iload_n kx_197_596 rfl ?_
                                refine s_iconst (v := 5) kx_197_597 (by decide) ?_
                                refine s_icmp_ne (t := 613) kx_197_598 (by decide) (fun hc1628 => ?_) (fun hc1628 => absurd hc1628 (by omega))
                                refine s_aload_n kx_197_613 rfl ?_
                                refine s_callV2 (k := 63) (s1 := 1) (s2 := 0) (as := []) (rest := []) kx_197_614 kp_197_286 (Or.inl rfl) rfl (tk_63 hT) ki_180 kcl_180 rfl rfl (by decide) (m_180 (d := d) hT hI1618) (kV (fun M1630 hI1630 fr1630 v1629p => ?_))
                                have hFm1630 := hFm1618.call fr1630 rfl
                                have tr1631 := (fr1630 63 9 rfl)
                                have tr1632 := (fr1630 63 35 rfl)
                                have tr1633 := (fr1630 63 42 rfl)
                                have tr1634 := (fr1630 63 43 rfl)
                                have tr1635 := (fr1630 63 45 rfl)
                                have tr1636 := rg_63_9 hI1630
                                refine s_iconst (v := 1) kx_197_617 (by decide) ?_
                                have hk1637 : M1630 63 9 = v1552 := ((fr1630 63 9 rfl).trans ((fr1618 63 9 rfl).trans ((u1575.2 63 9 (by omega)).trans ((u1564.2 63 9 (by omega)).trans ((fr1555 63 9 rfl).trans v1552e)))))
                                exact s_iret kx_197_618 (Or.inr ⟨kq_197, by omega⟩) ⟨_, _, rfl, rfl, hI1630, hFm1630, ⟨by omega, by omega, (show LXp M1630 from v1629p.2), (by omega), (by omega), (Or.inr (Or.inr ⟨rfl, by omega, Or.inr ⟨((fr1630 63 46 rfl).trans ((fr1618 63 46 rfl).trans ((u1575.2 63 46 (by omega)).trans ((u1564.2 63 46 (by omega)).trans ((fr1555 63 46 rfl).trans ((fr1543 63 46 rfl).trans (fr2 63 46 rfl))))))), (B0.fr (B0.fr (B0.up (show B0 M1564 from hcl1573.2.1) u1575 (by decide)) fr1618 rfl (fun _ => rfl)) fr1630 rfl (fun _ => rfl)), PI.to7 (PI.fr hP1627 fr1630 rfl) (by omega)⟩⟩))⟩⟩
                            · refine s_iconst (v := 0) kx_197_553 (by decide) ?_
                              have hk1638 : M1543 63 4 = v1541 := ((fr1543 63 4 rfl).trans v1541e)
                              have hk1639 : M1543 63 9 = v1552 := v1552e
                              exact s_iret kx_197_554 (Or.inr ⟨kq_197, by omega⟩) ⟨_, _, rfl, rfl, hI1543, hFm1543, ⟨by omega, by omega, (LXp.fr (LXp.fr hX fr2 rfl) fr1543 rfl), (by omega), (by omega), (Or.inl (by omega))⟩⟩
                        refine s_icmp_ne (t := 529) kx_197_521 (by decide) (fun hc1447 => ?_) (fun hc1447 => ?_)
                        · have hJ1448 : Fr fS_197_j521 M2 M2 := Fr.refl
                          refine s_bipush (v := 41) kx_197_529 (by decide) ?_
                          exact cP.wk (lS1 rfl (lS1 rfl (lS1 rfl lS0))) (jn1451 41 (by omega) (by omega))
                        · have hJ1449 : Fr fS_197_j521 M2 M2 := Fr.refl
                          refine s_bipush (v := 93) kx_197_524 (by decide) ?_
                          refine s_goto (t := 531) kx_197_526 (by decide) ?_
                          exact cP.wk (lS1 rfl (lS1 rfl (lS1 rfl lS0))) (jn1451 93 (by omega) (by omega))
                      · refine s_aload_n kx_197_452 rfl ?_
                        refine s_bipush (v := 44) kx_197_453 (by decide) ?_
                        refine s_callV2 (k := 63) (s1 := 2) (s2 := 0) (as := [(0, 44)]) (rest := []) kx_197_455 kp_197_283 (Or.inl rfl) rfl (tk_63 hT) ki_181 kcl_181 rfl rfl (by decide) (m_181 (d := d + 1) (c := 44) hT hI2) (kF (fun v1640 v1640p => ?_))
                        refine s_if_ne (t := 470) kx_197_458 (by decide) (fun hc1641 => ?_) (fun hc1641 => ?_)
                        · replace v1640p := v1640p.resolve_right (by omega)
                          refine s_aload_n kx_197_470 rfl ?_
                          refine r_getK (k := 63) (f := 9) kx_197_471 kp_197_39 (tk_63 hT) kf_12_9 (fun _ => rfl) v11e ?_
                          refine s_if_le (t := 479) kx_197_474 (by decide) (fun hc1642 => ?_) (fun hc1642 => absurd hc1642 (by omega))
                          refine s_aload_n kx_197_479 rfl ?_
                          refine s_iconst (v := 1) kx_197_480 (by decide) ?_
                          refine s_callV2 (k := 63) (s1 := 2) (s2 := 0) (as := [(0, 1)]) (rest := []) kx_197_481 kp_197_370 (Or.inl rfl) rfl (tk_63 hT) ki_191 kcl_191 rfl rfl (by decide) (m_191 (d := d) (least := 1) hT hI2 (PI.fr hP fr2 rfl) (by omega) (by omega) (by omega)) (kV (fun M1644 hI1644 fr1644 v1643p => ?_))
                          have hFm1644 := hFm2.call fr1644 rfl
                          have tr1645 := (fr1644 63 3 rfl)
                          have tr1646 := (fr1644 63 4 rfl)
                          have tr1647 := (fr1644 63 5 rfl)
                          have tr1648 := (fr1644 63 9 rfl)
                          have tr1649 := (fr1644 63 42 rfl)
                          have tr1650 := rg_63_9 hI1644
                          have hd1651 := PI.deep v1643p
                          have hs1652 := PI.small v1643p (rg_63_43 hI1644).2 (by decide)
                          have hs1652a := hs1652.1
                          have hs1652b := hs1652.2.1
                          have hs1652c := rg_63_45 hI1644
                          have hk851653 : M1644 85 ((v13 - 1)).toNat = v14 := ((fr1644 85 _ rfl).trans v14e)
                          refine s_aload_n kx_197_484 rfl ?_
                          refine r_getR (k := 63) (f := 37) (k2 := 85) kx_197_485 kp_197_124 (tk_63 hT) kf_12_37 (by decide) (rq_63_37 hI1644) ?_
                          refine s_iload_n kx_197_488 rfl ?_
                          refine s_iload_n kx_197_489 rfl ?_
                          refine s_iconst (v := 3) kx_197_490 (by decide) ?_
                          refine s_icmp_ne (t := 498) kx_197_491 (by decide) (fun hc1654 => ?_) (fun hc1654 => absurd hc1654 (by omega))
                          refine s_iconst (v := 3) kx_197_498 (by decide) ?_
                          refine r_ast (k := 85) kx_197_499 (tk_85 hT) ⟨by omega, by omega⟩ hI1644 (ru_85 (by omega) (by omega)) (fun M1655 hI1655 u1655 => ?_)
                          have hFm1655 := hFm1644.up u1655 rfl
                          have tr1656 := (u1655.2 63 3 (by omega))
                          have tr1657 := (u1655.2 63 4 (by omega))
                          have tr1658 := (u1655.2 63 5 (by omega))
                          have tr1659 := (u1655.2 63 9 (by omega))
                          have tr1660 := (u1655.2 63 35 (by omega))
                          have tr1661 := (u1655.2 63 42 (by omega))
                          have tr1662 := (u1655.2 63 43 (by omega))
                          have tr1663 := (u1655.2 63 45 (by omega))
                          refine s_aload_n kx_197_500 rfl ?_
                          refine r_getR (k := 63) (f := 38) (k2 := 86) kx_197_501 kp_197_127 (tk_63 hT) kf_12_38 (by decide) (rq_63_38 hI1655) ?_
                          refine s_iload_n kx_197_504 rfl ?_
                          refine s_iconst (v := 0) kx_197_505 (by decide) ?_
                          refine r_ast (k := 86) kx_197_506 (tk_86 hT) ⟨by omega, by omega⟩ hI1655 (ru_86 (by omega) (by omega)) (fun M1664 hI1664 u1664 => ?_)
                          have hFm1664 := hFm1655.up u1664 rfl
                          have tr1665 := (u1664.2 63 3 (by omega))
                          have tr1666 := (u1664.2 63 4 (by omega))
                          have tr1667 := (u1664.2 63 5 (by omega))
                          have tr1668 := (u1664.2 63 9 (by omega))
                          have tr1669 := (u1664.2 63 35 (by omega))
                          have tr1670 := (u1664.2 63 42 (by omega))
                          have tr1671 := (u1664.2 63 43 (by omega))
                          have tr1672 := (u1664.2 63 45 (by omega))
                          refine s_aload_n kx_197_507 rfl ?_
                          refine s_callV2 (k := 63) (s1 := 1) (s2 := 0) (as := []) (rest := []) kx_197_508 kp_197_286 (Or.inl rfl) rfl (tk_63 hT) ki_180 kcl_180 rfl rfl (by decide) (m_180 (d := d) hT hI1664) (kV (fun M1674 hI1674 fr1674 v1673p => ?_))
                          have hFm1674 := hFm1664.call fr1674 rfl
                          have tr1675 := (fr1674 63 9 rfl)
                          have tr1676 := (fr1674 63 35 rfl)
                          have tr1677 := (fr1674 63 42 rfl)
                          have tr1678 := (fr1674 63 43 rfl)
                          have tr1679 := (fr1674 63 45 rfl)
                          have tr1680 := rg_63_9 hI1674
                          refine s_aload_n kx_197_511 rfl ?_
                          refine s_iconst (v := 0) kx_197_512 (by decide) ?_
                          refine r_put (k := 63) (f := 46) kx_197_513 kp_197_152 (tk_63 hT) kf_12_46 rfl (by decide) (by decide) hI1674 (ru_63_46 (by omega) (by omega)) (fun M1681 hI1681 u1681 => ?_)
                          have hFm1681 := hFm1674.up u1681 rfl
                          have tr1682 := (u1681.2 63 3 (by omega))
                          have tr1683 := (u1681.2 63 4 (by omega))
                          have tr1684 := (u1681.2 63 5 (by omega))
                          have tr1685 := (u1681.2 63 9 (by omega))
                          have tr1686 := (u1681.2 63 35 (by omega))
                          have tr1687 := (u1681.2 63 42 (by omega))
                          have tr1688 := (u1681.2 63 43 (by omega))
                          have tr1689 := (u1681.2 63 45 (by omega))
                          refine s_iconst (v := 1) kx_197_516 (by decide) ?_
                          have hk1690 : M1681 63 9 = v11 := ((u1681.2 63 9 (by omega)).trans ((fr1674 63 9 rfl).trans ((u1664.2 63 9 (by omega)).trans ((u1655.2 63 9 (by omega)).trans ((fr1644 63 9 rfl).trans v11e)))))
                          exact s_iret kx_197_517 (Or.inr ⟨kq_197, by omega⟩) ⟨_, _, rfl, rfl, hI1681, hFm1681, ⟨by omega, by omega, (LXp.up (show LXp M1674 from v1673p.2) u1681 (by decide)), (by omega), (by omega), (Or.inr (Or.inr ⟨rfl, by omega, Or.inl ⟨u1681.1, PI.to7 (PI.fr (PI.fr (PI.phase (PI.comma v1643p (by omega) (by omega) u1655) (Or.inr (by omega)) (by omega) u1664) fr1674 rfl) (Up.fr u1681) rfl) (by omega)⟩⟩))⟩⟩
                        · replace v1640p := v1640p.resolve_left (by omega)
                          refine s_aload_n kx_197_461 rfl ?_
                          refine s_iconst (v := 1) kx_197_462 (by decide) ?_
                          refine s_aload_n kx_197_463 rfl ?_
                          refine r_getI (k := 63) (f := 4) kx_197_464 kp_197_23 (tk_63 hT) kf_12_4 (fun _ => rfl) (rg_63_4 hI2) (fun v1691 v1691e v1691a v1691b => ?_)
                          have v1691z : M 63 4 = v1691 := ((fr2 63 4 rfl)).symm.trans v1691e
                          refine s_callV2 (k := 63) (s1 := 3) (s2 := 0) (as := [(0, v1691), (0, 1)]) (rest := []) kx_197_467 kp_197_263 (Or.inl rfl) rfl (tk_63 hT) ki_176 kcl_176 rfl rfl (by decide) (m_176 (d := d + 1) (kind := 1) (place := v1691) hT hI2 (by omega)) (kV (fun M1693 hI1693 fr1693 v1692p => ?_))
                          have hFm1693 := hFm2.call fr1693 rfl
                          have tr1694 := (fr1693 63 3 rfl)
                          have tr1695 := (fr1693 63 4 rfl)
                          have tr1696 := (fr1693 63 5 rfl)
                          have tr1697 := (fr1693 63 35 rfl)
                          have tr1698 := (fr1693 63 42 rfl)
                          have tr1699 := (fr1693 63 43 rfl)
                          have tr1700 := (fr1693 63 45 rfl)
                          have tr1701 := rg_63_9 hI1693
                          refine s_aload_n kx_197_470 rfl ?_
                          refine r_getI (k := 63) (f := 9) kx_197_471 kp_197_39 (tk_63 hT) kf_12_9 (fun _ => rfl) (rg_63_9 hI1693) (fun v1702 v1702e v1702a v1702b => ?_)
                          refine s_if_le (t := 479) kx_197_474 (by decide) (fun hc1703 => ?_) (fun hc1703 => ?_)
                          · refine s_aload_n kx_197_479 rfl ?_
                            refine s_iconst (v := 1) kx_197_480 (by decide) ?_
                            refine s_callV2 (k := 63) (s1 := 2) (s2 := 0) (as := [(0, 1)]) (rest := []) kx_197_481 kp_197_370 (Or.inl rfl) rfl (tk_63 hT) ki_191 kcl_191 rfl rfl (by decide) (m_191 (d := d) (least := 1) hT hI1693 (PI.fr (PI.fr hP fr2 rfl) fr1693 rfl) (by omega) (by omega) (by omega)) (kV (fun M1705 hI1705 fr1705 v1704p => ?_))
                            have hFm1705 := hFm1693.call fr1705 rfl
                            have tr1706 := (fr1705 63 3 rfl)
                            have tr1707 := (fr1705 63 4 rfl)
                            have tr1708 := (fr1705 63 5 rfl)
                            have tr1709 := (fr1705 63 9 rfl)
                            have tr1710 := (fr1705 63 42 rfl)
                            have tr1711 := rg_63_9 hI1705
                            have hd1712 := PI.deep v1704p
                            have hs1713 := PI.small v1704p (rg_63_43 hI1705).2 (by decide)
                            have hs1713a := hs1713.1
                            have hs1713b := hs1713.2.1
                            have hs1713c := rg_63_45 hI1705
                            have hk851714 : M1705 85 ((v13 - 1)).toNat = v14 := ((fr1705 85 _ rfl).trans ((fr1693 85 _ rfl).trans v14e))
                            refine s_aload_n kx_197_484 rfl ?_
                            refine r_getR (k := 63) (f := 37) (k2 := 85) kx_197_485 kp_197_124 (tk_63 hT) kf_12_37 (by decide) (rq_63_37 hI1705) ?_
                            refine s_iload_n kx_197_488 rfl ?_
                            refine s_iload_n kx_197_489 rfl ?_
                            refine s_iconst (v := 3) kx_197_490 (by decide) ?_
                            refine s_icmp_ne (t := 498) kx_197_491 (by decide) (fun hc1715 => ?_) (fun hc1715 => absurd hc1715 (by omega))
                            refine s_iconst (v := 3) kx_197_498 (by decide) ?_
                            refine r_ast (k := 85) kx_197_499 (tk_85 hT) ⟨by omega, by omega⟩ hI1705 (ru_85 (by omega) (by omega)) (fun M1716 hI1716 u1716 => ?_)
                            have hFm1716 := hFm1705.up u1716 rfl
                            have tr1717 := (u1716.2 63 3 (by omega))
                            have tr1718 := (u1716.2 63 4 (by omega))
                            have tr1719 := (u1716.2 63 5 (by omega))
                            have tr1720 := (u1716.2 63 9 (by omega))
                            have tr1721 := (u1716.2 63 35 (by omega))
                            have tr1722 := (u1716.2 63 42 (by omega))
                            have tr1723 := (u1716.2 63 43 (by omega))
                            have tr1724 := (u1716.2 63 45 (by omega))
                            refine s_aload_n kx_197_500 rfl ?_
                            refine r_getR (k := 63) (f := 38) (k2 := 86) kx_197_501 kp_197_127 (tk_63 hT) kf_12_38 (by decide) (rq_63_38 hI1716) ?_
                            refine s_iload_n kx_197_504 rfl ?_
                            refine s_iconst (v := 0) kx_197_505 (by decide) ?_
                            refine r_ast (k := 86) kx_197_506 (tk_86 hT) ⟨by omega, by omega⟩ hI1716 (ru_86 (by omega) (by omega)) (fun M1725 hI1725 u1725 => ?_)
                            have hFm1725 := hFm1716.up u1725 rfl
                            have tr1726 := (u1725.2 63 3 (by omega))
                            have tr1727 := (u1725.2 63 4 (by omega))
                            have tr1728 := (u1725.2 63 5 (by omega))
                            have tr1729 := (u1725.2 63 9 (by omega))
                            have tr1730 := (u1725.2 63 35 (by omega))
                            have tr1731 := (u1725.2 63 42 (by omega))
                            have tr1732 := (u1725.2 63 43 (by omega))
                            have tr1733 := (u1725.2 63 45 (by omega))
                            refine s_aload_n kx_197_507 rfl ?_
                            refine s_callV2 (k := 63) (s1 := 1) (s2 := 0) (as := []) (rest := []) kx_197_508 kp_197_286 (Or.inl rfl) rfl (tk_63 hT) ki_180 kcl_180 rfl rfl (by decide) (m_180 (d := d) hT hI1725) (kV (fun M1735 hI1735 fr1735 v1734p => ?_))
                            have hFm1735 := hFm1725.call fr1735 rfl
                            have tr1736 := (fr1735 63 9 rfl)
                            have tr1737 := (fr1735 63 35 rfl)
                            have tr1738 := (fr1735 63 42 rfl)
                            have tr1739 := (fr1735 63 43 rfl)
                            have tr1740 := (fr1735 63 45 rfl)
                            have tr1741 := rg_63_9 hI1735
                            refine s_aload_n kx_197_511 rfl ?_
                            refine s_iconst (v := 0) kx_197_512 (by decide) ?_
                            refine r_put (k := 63) (f := 46) kx_197_513 kp_197_152 (tk_63 hT) kf_12_46 rfl (by decide) (by decide) hI1735 (ru_63_46 (by omega) (by omega)) (fun M1742 hI1742 u1742 => ?_)
                            have hFm1742 := hFm1735.up u1742 rfl
                            have tr1743 := (u1742.2 63 3 (by omega))
                            have tr1744 := (u1742.2 63 4 (by omega))
                            have tr1745 := (u1742.2 63 5 (by omega))
                            have tr1746 := (u1742.2 63 9 (by omega))
                            have tr1747 := (u1742.2 63 35 (by omega))
                            have tr1748 := (u1742.2 63 42 (by omega))
                            have tr1749 := (u1742.2 63 43 (by omega))
                            have tr1750 := (u1742.2 63 45 (by omega))
                            refine s_iconst (v := 1) kx_197_516 (by decide) ?_
                            have hk1751 : M1742 63 9 = v1702 := ((u1742.2 63 9 (by omega)).trans ((fr1735 63 9 rfl).trans ((u1725.2 63 9 (by omega)).trans ((u1716.2 63 9 (by omega)).trans ((fr1705 63 9 rfl).trans v1702e)))))
                            exact s_iret kx_197_517 (Or.inr ⟨kq_197, by omega⟩) ⟨_, _, rfl, rfl, hI1742, hFm1742, ⟨by omega, by omega, (LXp.up (show LXp M1735 from v1734p.2) u1742 (by decide)), (by omega), (by omega), (Or.inr (Or.inr ⟨rfl, by omega, Or.inl ⟨u1742.1, PI.to7 (PI.fr (PI.fr (PI.phase (PI.comma v1704p (by omega) (by omega) u1716) (Or.inr (by omega)) (by omega) u1725) fr1735 rfl) (Up.fr u1742) rfl) (by omega)⟩⟩))⟩⟩
                          · refine s_iconst (v := 0) kx_197_477 (by decide) ?_
                            have hk1752 : M1693 63 4 = v1691 := ((fr1693 63 4 rfl).trans v1691e)
                            have hk1753 : M1693 63 9 = v1702 := v1702e
                            exact s_iret kx_197_478 (Or.inr ⟨kq_197, by omega⟩) ⟨_, _, rfl, rfl, hI1693, hFm1693, ⟨by omega, by omega, (LXp.fr (LXp.fr hX fr2 rfl) fr1693 rfl), (by omega), (by omega), (Or.inl (by omega))⟩⟩
                  · refine s_aload_n kx_197_427 rfl ?_
                    refine r_getK (k := 63) (f := 9) kx_197_428 kp_197_39 (tk_63 hT) kf_12_9 (fun _ => rfl) v11e ?_
                    refine s_if_ne (t := 439) kx_197_431 (by decide) (fun hc1754 => absurd hc1754 (by omega)) (fun hc1754 => ?_)
                    refine s_aload_n kx_197_434 rfl ?_
                    refine s_iconst (v := 1) kx_197_435 (by decide) ?_
                    refine s_callV2 (k := 63) (s1 := 2) (s2 := 0) (as := [(0, 1)]) (rest := []) kx_197_436 kp_197_370 (Or.inl rfl) rfl (tk_63 hT) ki_191 kcl_191 rfl rfl (by decide) (m_191 (d := d) (least := 1) hT hI2 (PI.fr hP fr2 rfl) (by omega) (by omega) (by omega)) (kV (fun M1756 hI1756 fr1756 v1755p => ?_))
                    have hFm1756 := hFm2.call fr1756 rfl
                    have tr1757 := (fr1756 63 3 rfl)
                    have tr1758 := (fr1756 63 4 rfl)
                    have tr1759 := (fr1756 63 5 rfl)
                    have tr1760 := (fr1756 63 9 rfl)
                    have tr1761 := (fr1756 63 42 rfl)
                    have tr1762 := rg_63_9 hI1756
                    refine s_iconst (v := 0) kx_197_439 (by decide) ?_
                    have hk1763 : M1756 63 9 = v11 := ((fr1756 63 9 rfl).trans v11e)
                    exact s_iret kx_197_440 (Or.inr ⟨kq_197, by omega⟩) ⟨_, _, rfl, rfl, hI1756, hFm1756, ⟨by omega, by omega, (LXp.fr (LXp.fr hX fr2 rfl) fr1756 rfl), (by omega), (by omega), (if h9 : 1 ≤ M1756 63 9 then Or.inl h9 else Or.inr (Or.inl ⟨rfl, PI.to7 v1755p (by omega)⟩))⟩⟩
                · replace v15p := v15p.resolve_right (by omega)
                  refine s_aload_n kx_197_192 rfl ?_
                  refine r_getR (k := 63) (f := 38) (k2 := 86) kx_197_193 kp_197_127 (tk_63 hT) kf_12_38 (by decide) (rq_63_38 hI2) ?_
                  refine s_iload_n kx_197_196 rfl ?_
                  refine r_aldK (k := 86) kx_197_197 (tk_86 hT) ⟨by omega, by omega⟩ v16e ?_
                  refine s_if_ne (t := 285) kx_197_198 (by decide) (fun hc1764 => ?_) (fun hc1764 => ?_)
                  · refine s_iload_n kx_197_285 rfl ?_
                    refine s_if_eq (t := 400) kx_197_286 (by decide) (fun hc1765 => absurd hc1765 (by omega)) (fun hc1765 => ?_)
                    refine s_aload_n kx_197_289 rfl ?_
                    refine s_ldc2_w kx_197_290 kp_197_327 ?_
                    refine s_callV2 (k := 63) (s1 := 3) (s2 := 0) (as := [(1, 6385252)]) (rest := []) kx_197_293 kp_197_361 (Or.inl rfl) rfl (tk_63 hT) ki_182 kcl_182 rfl rfl (by decide) (m_182 (d := d + 1) (w := 6385252) hT hI2) (kF (fun v1766 v1766p => ?_))
                    refine s_if_ne (t := 309) kx_197_296 (by decide) (fun hc1767 => ?_) (fun hc1767 => ?_)
                    · replace v1766p := v1766p.resolve_right (by omega)
                      refine s_aload_n kx_197_309 rfl ?_
                      refine r_getR (k := 63) (f := 38) (k2 := 86) kx_197_310 kp_197_127 (tk_63 hT) kf_12_38 (by decide) (rq_63_38 hI2) ?_
                      refine s_iload_n kx_197_313 rfl ?_
                      refine r_aldK (k := 86) kx_197_314 (tk_86 hT) ⟨by omega, by omega⟩ v16e ?_
                      refine s_if_ne (t := 327) kx_197_315 (by decide) (fun hc1768 => ?_) (fun hc1768 => absurd hc1768 (by omega))
                      refine s_aload_n kx_197_327 rfl ?_
                      refine r_getK (k := 63) (f := 9) kx_197_328 kp_197_39 (tk_63 hT) kf_12_9 (fun _ => rfl) v11e ?_
                      refine s_if_le (t := 336) kx_197_331 (by decide) (fun hc1769 => ?_) (fun hc1769 => absurd hc1769 (by omega))
                      refine s_aload_n kx_197_336 rfl ?_
                      refine s_ldc2_w kx_197_337 kp_197_327 ?_
                      refine s_callV2 (k := 63) (s1 := 3) (s2 := 0) (as := [(1, 6385252)]) (rest := []) kx_197_340 kp_197_361 (Or.inl rfl) rfl (tk_63 hT) ki_182 kcl_182 rfl rfl (by decide) (m_182 (d := d + 1) (w := 6385252) hT hI2) (kF (fun v1770 v1770p => ?_))
                      refine s_istore kx_197_343 km_197_4 rfl ?_
                      refine s_aload_n kx_197_345 rfl ?_
                      refine s_iload kx_197_346 rfl ?_
                      have jn1775 : ∀ (y1774 : Int), (1 ≤ y1774) → (y1774 ≤ 2) → ((y1774 = 2 ∧ v1770 ≠ 0) ∨ (y1774 = 1 ∧ v1770 = 0)) → cP k_P xs Ln (d + 2) 197 356 [(0, rf 63), (1, (0, (v13 - 1))), (4, (0, v1770))] [(0, y1774), rf 63] (T, M2) (qW T M fS_197_m 0 (fun v M1 => 0 ≤ v ∧ v ≤ 1 ∧ (LXp M1 ∧ M 63 4 ≤ M1 63 4 ∧ M 63 9 ≤ M1 63 9 ∧ (GOd M M1 c a v)))) := by
                        intro y1774 a1776 a1777 a1778
                        refine s_callV2 (k := 63) (s1 := 2) (s2 := 0) (as := [(0, y1774)]) (rest := []) kx_197_356 kp_197_370 (Or.inl rfl) rfl (tk_63 hT) ki_191 kcl_191 rfl rfl (by decide) (m_191 (d := d) (least := y1774) hT hI2 (PI.fr hP fr2 rfl) (by omega) (by omega) (by omega)) (kV (fun M1780 hI1780 fr1780 v1779p => ?_))
                        have hFm1780 := hFm2.call fr1780 rfl
                        have tr1781 := (fr1780 63 3 rfl)
                        have tr1782 := (fr1780 63 4 rfl)
                        have tr1783 := (fr1780 63 5 rfl)
                        have tr1784 := (fr1780 63 9 rfl)
                        have tr1785 := (fr1780 63 42 rfl)
                        have tr1786 := rg_63_9 hI1780
                        have hd1787 := PI.deep v1779p
                        have hs1788 := PI.small v1779p (rg_63_43 hI1780).2 (by decide)
                        have hs1788a := hs1788.1
                        have hs1788b := hs1788.2.1
                        have hs1788c := rg_63_45 hI1780
                        refine s_aload_n kx_197_359 rfl ?_
                        refine s_iload kx_197_360 rfl ?_
                        have jn1793 : ∀ (y1792 : Int), (20 ≤ y1792) → (y1792 ≤ 21) → ((y1792 = 20 ∧ v1770 ≠ 0) ∨ (y1792 = 21 ∧ v1770 = 0)) → cP k_P xs Ln (d + 2) 197 372 [(0, rf 63), (1, (0, (v13 - 1)))] [(0, y1792), rf 63] (T, M1780) (qW T M fS_197_m 0 (fun v M1 => 0 ≤ v ∧ v ≤ 1 ∧ (LXp M1 ∧ M 63 4 ≤ M1 63 4 ∧ M 63 9 ≤ M1 63 9 ∧ (GOd M M1 c a v)))) := by
                          intro y1792 a1794 a1795 a1796
                          refine s_callV2 (k := 63) (s1 := 2) (s2 := 0) (as := [(0, y1792)]) (rest := []) kx_197_372 kp_197_364 (Or.inl rfl) rfl (tk_63 hT) ki_192 kcl_192 rfl rfl (by decide) (m_192 (d := d + 1) (op := y1792) hT hI1780 (by omega) (by omega)) (kV (fun M1798 hI1798 fr1798 v1797p => ?_))
                          have hFm1798 := hFm1780.call fr1798 rfl
                          have tr1799 := (fr1798 63 3 rfl)
                          have tr1800 := (fr1798 63 4 rfl)
                          have tr1801 := (fr1798 63 5 rfl)
                          have tr1802 := (fr1798 63 9 rfl)
                          have tr1803 := (fr1798 63 35 rfl)
                          have tr1804 := (fr1798 63 42 rfl)
                          have tr1805 := (fr1798 63 43 rfl)
                          have tr1806 := rg_63_9 hI1798
                          have hP1807 := PI.holdL v1779p (B0.fr (B0.fr hB fr2 rfl (fun _ => rfl)) fr1780 rfl (fun _ => rfl)) (by omega) fr1798 v1797p.1 v1797p.2.1 v1797p.2.2
                          refine s_aload_n kx_197_375 rfl ?_
                          refine r_getR (k := 63) (f := 38) (k2 := 86) kx_197_376 kp_197_127 (tk_63 hT) kf_12_38 (by decide) (rq_63_38 hI1798) ?_
                          refine s_iload_n kx_197_379 rfl ?_
                          refine s_iconst (v := 0) kx_197_380 (by decide) ?_
                          refine r_ast (k := 86) kx_197_381 (tk_86 hT) ⟨by omega, by omega⟩ hI1798 (ru_86 (by omega) (by omega)) (fun M1808 hI1808 u1808 => ?_)
                          have hFm1808 := hFm1798.up u1808 rfl
                          have tr1809 := (u1808.2 63 3 (by omega))
                          have tr1810 := (u1808.2 63 4 (by omega))
                          have tr1811 := (u1808.2 63 5 (by omega))
                          have tr1812 := (u1808.2 63 9 (by omega))
                          have tr1813 := (u1808.2 63 35 (by omega))
                          have tr1814 := (u1808.2 63 42 (by omega))
                          have tr1815 := (u1808.2 63 43 (by omega))
                          have tr1816 := (u1808.2 63 45 (by omega))
                          refine s_aload_n kx_197_382 rfl ?_
                          refine r_getR (k := 63) (f := 39) (k2 := 87) kx_197_383 kp_197_130 (tk_63 hT) kf_12_39 (by decide) (rq_63_39 hI1808) ?_
                          refine s_iload_n kx_197_386 rfl ?_
                          refine s_iconst (v := 1) kx_197_387 (by decide) ?_
                          refine r_bast (k := 87) kx_197_388 (tk_87 hT) ⟨by omega, by omega⟩ (by omega) hI1808 (ru_87 (by omega) (by omega)) (fun M1817 hI1817 u1817 => ?_)
                          have hFm1817 := hFm1808.up u1817 rfl
                          have tr1818 := (u1817.2 63 3 (by omega))
                          have tr1819 := (u1817.2 63 4 (by omega))
                          have tr1820 := (u1817.2 63 5 (by omega))
                          have tr1821 := (u1817.2 63 9 (by omega))
                          have tr1822 := (u1817.2 63 35 (by omega))
                          have tr1823 := (u1817.2 63 42 (by omega))
                          have tr1824 := (u1817.2 63 43 (by omega))
                          have tr1825 := (u1817.2 63 45 (by omega))
                          refine s_aload_n kx_197_389 rfl ?_
                          refine s_callV2 (k := 63) (s1 := 1) (s2 := 0) (as := []) (rest := []) kx_197_390 kp_197_286 (Or.inl rfl) rfl (tk_63 hT) ki_180 kcl_180 rfl rfl (by decide) (m_180 (d := d) hT hI1817) (kV (fun M1827 hI1827 fr1827 v1826p => ?_))
                          have hFm1827 := hFm1817.call fr1827 rfl
                          have tr1828 := (fr1827 63 9 rfl)
                          have tr1829 := (fr1827 63 35 rfl)
                          have tr1830 := (fr1827 63 42 rfl)
                          have tr1831 := (fr1827 63 43 rfl)
                          have tr1832 := (fr1827 63 45 rfl)
                          have tr1833 := rg_63_9 hI1827
                          refine s_aload_n kx_197_393 rfl ?_
                          refine s_iconst (v := 0) kx_197_394 (by decide) ?_
                          refine r_put (k := 63) (f := 46) kx_197_395 kp_197_152 (tk_63 hT) kf_12_46 rfl (by decide) (by decide) hI1827 (ru_63_46 (by omega) (by omega)) (fun M1834 hI1834 u1834 => ?_)
                          have hFm1834 := hFm1827.up u1834 rfl
                          have tr1835 := (u1834.2 63 3 (by omega))
                          have tr1836 := (u1834.2 63 4 (by omega))
                          have tr1837 := (u1834.2 63 5 (by omega))
                          have tr1838 := (u1834.2 63 9 (by omega))
                          have tr1839 := (u1834.2 63 35 (by omega))
                          have tr1840 := (u1834.2 63 42 (by omega))
                          have tr1841 := (u1834.2 63 43 (by omega))
                          have tr1842 := (u1834.2 63 45 (by omega))
                          refine s_iconst (v := 1) kx_197_398 (by decide) ?_
                          have hk1843 : M1834 63 9 = v11 := ((u1834.2 63 9 (by omega)).trans ((fr1827 63 9 rfl).trans ((u1817.2 63 9 (by omega)).trans ((u1808.2 63 9 (by omega)).trans ((fr1798 63 9 rfl).trans ((fr1780 63 9 rfl).trans v11e))))))
                          exact s_iret kx_197_399 (Or.inr ⟨kq_197, by omega⟩) ⟨_, _, rfl, rfl, hI1834, hFm1834, ⟨by omega, by omega, (LXp.up (show LXp M1827 from v1826p.2) u1834 (by decide)), (by omega), (by omega), (Or.inr (Or.inr ⟨rfl, by omega, Or.inl ⟨u1834.1, PI.to7 (PI.fr (PI.fr (PI.begins1 (PI.phase hP1807 (Or.inr (by omega)) (by omega) u1808) (by omega) (by omega) u1817) fr1827 rfl) (Up.fr u1834) rfl) (by omega)⟩⟩))⟩⟩
                        refine s_if_eq (t := 370) kx_197_362 (by decide) (fun hc1789 => ?_) (fun hc1789 => ?_)
                        · have hJ1790 : Fr fS_197_j362 M1780 M1780 := Fr.refl
                          refine s_bipush (v := 21) kx_197_370 (by decide) ?_
                          exact cP.wk (lS1 rfl (lS1 rfl lS0)) (jn1793 21 (by omega) (by omega) (by omega))
                        · have hJ1791 : Fr fS_197_j362 M1780 M1780 := Fr.refl
                          refine s_bipush (v := 20) kx_197_365 (by decide) ?_
                          refine s_goto (t := 372) kx_197_367 (by decide) ?_
                          exact cP.wk (lS1 rfl (lS1 rfl lS0)) (jn1793 20 (by omega) (by omega) (by omega))
                      refine s_if_eq (t := 355) kx_197_348 (by decide) (fun hc1771 => ?_) (fun hc1771 => ?_)
                      · have hJ1772 : Fr fS_197_j348 M2 M2 := Fr.refl
                        replace v1770p := v1770p.resolve_left (by omega)
                        refine s_iconst (v := 1) kx_197_355 (by decide) ?_
                        exact cP.wk (lS1 rfl (lS1 rfl (lS1 rfl lS0))) (jn1775 1 (by omega) (by omega) (by omega))
                      · have hJ1773 : Fr fS_197_j348 M2 M2 := Fr.refl
                        replace v1770p := v1770p.resolve_right (by omega)
                        refine s_iconst (v := 2) kx_197_351 (by decide) ?_
                        refine s_goto (t := 356) kx_197_352 (by decide) ?_
                        exact cP.wk (lS1 rfl (lS1 rfl (lS1 rfl lS0))) (jn1775 2 (by omega) (by omega) (by omega))
                    · replace v1766p := v1766p.resolve_left (by omega)
                      refine s_aload_n kx_197_299 rfl ?_
                      refine s_ldc2_w kx_197_300 kp_197_325 ?_
                      refine s_callV2 (k := 63) (s1 := 3) (s2 := 0) (as := [(1, 28530)]) (rest := []) kx_197_303 kp_197_361 (Or.inl rfl) rfl (tk_63 hT) ki_182 kcl_182 rfl rfl (by decide) (m_182 (d := d + 1) (w := 28530) hT hI2) (kF (fun v1844 v1844p => ?_))
                      refine s_if_eq (t := 400) kx_197_306 (by decide) (fun hc1845 => ?_) (fun hc1845 => ?_)
                      · replace v1844p := v1844p.resolve_left (by omega)
                        refine s_iload_n kx_197_400 rfl ?_
                        refine s_if_eq (t := 422) kx_197_401 (by decide) (fun hc1846 => absurd hc1846 (by omega)) (fun hc1846 => ?_)
                        refine s_aload_n kx_197_404 rfl ?_
                        refine r_getR (k := 63) (f := 38) (k2 := 86) kx_197_405 kp_197_127 (tk_63 hT) kf_12_38 (by decide) (rq_63_38 hI2) ?_
                        refine s_iload_n kx_197_408 rfl ?_
                        refine r_aldK (k := 86) kx_197_409 (tk_86 hT) ⟨by omega, by omega⟩ v16e ?_
                        refine s_if_ne (t := 422) kx_197_410 (by decide) (fun hc1847 => ?_) (fun hc1847 => absurd hc1847 (by omega))
                        refine s_iload_n kx_197_422 rfl ?_
                        refine s_iconst (v := 2) kx_197_423 (by decide) ?_
                        refine s_icmp_ge (t := 441) kx_197_424 (by decide) (fun hc1848 => ?_) (fun hc1848 => ?_)
                        · refine s_iload_n kx_197_441 rfl ?_
                          refine s_iconst (v := 3) kx_197_442 (by decide) ?_
                          refine s_icmp_eq (t := 452) kx_197_443 (by decide) (fun hc1849 => ?_) (fun hc1849 => ?_)
                          · refine s_aload_n kx_197_452 rfl ?_
                            refine s_bipush (v := 44) kx_197_453 (by decide) ?_
                            refine s_callV2 (k := 63) (s1 := 2) (s2 := 0) (as := [(0, 44)]) (rest := []) kx_197_455 kp_197_283 (Or.inl rfl) rfl (tk_63 hT) ki_181 kcl_181 rfl rfl (by decide) (m_181 (d := d + 1) (c := 44) hT hI2) (kF (fun v1850 v1850p => ?_))
                            refine s_if_ne (t := 470) kx_197_458 (by decide) (fun hc1851 => ?_) (fun hc1851 => ?_)
                            · replace v1850p := v1850p.resolve_right (by omega)
                              refine s_aload_n kx_197_470 rfl ?_
                              refine r_getK (k := 63) (f := 9) kx_197_471 kp_197_39 (tk_63 hT) kf_12_9 (fun _ => rfl) v11e ?_
                              refine s_if_le (t := 479) kx_197_474 (by decide) (fun hc1852 => ?_) (fun hc1852 => absurd hc1852 (by omega))
                              refine s_aload_n kx_197_479 rfl ?_
                              refine s_iconst (v := 1) kx_197_480 (by decide) ?_
                              refine s_callV2 (k := 63) (s1 := 2) (s2 := 0) (as := [(0, 1)]) (rest := []) kx_197_481 kp_197_370 (Or.inl rfl) rfl (tk_63 hT) ki_191 kcl_191 rfl rfl (by decide) (m_191 (d := d) (least := 1) hT hI2 (PI.fr hP fr2 rfl) (by omega) (by omega) (by omega)) (kV (fun M1854 hI1854 fr1854 v1853p => ?_))
                              have hFm1854 := hFm2.call fr1854 rfl
                              have tr1855 := (fr1854 63 3 rfl)
                              have tr1856 := (fr1854 63 4 rfl)
                              have tr1857 := (fr1854 63 5 rfl)
                              have tr1858 := (fr1854 63 9 rfl)
                              have tr1859 := (fr1854 63 42 rfl)
                              have tr1860 := rg_63_9 hI1854
                              have hd1861 := PI.deep v1853p
                              have hs1862 := PI.small v1853p (rg_63_43 hI1854).2 (by decide)
                              have hs1862a := hs1862.1
                              have hs1862b := hs1862.2.1
                              have hs1862c := rg_63_45 hI1854
                              have hk851863 : M1854 85 ((v13 - 1)).toNat = v14 := ((fr1854 85 _ rfl).trans v14e)
                              refine s_aload_n kx_197_484 rfl ?_
                              refine r_getR (k := 63) (f := 37) (k2 := 85) kx_197_485 kp_197_124 (tk_63 hT) kf_12_37 (by decide) (rq_63_37 hI1854) ?_
                              refine s_iload_n kx_197_488 rfl ?_
                              refine s_iload_n kx_197_489 rfl ?_
                              refine s_iconst (v := 3) kx_197_490 (by decide) ?_
                              refine s_icmp_ne (t := 498) kx_197_491 (by decide) (fun hc1864 => absurd hc1864 (by omega)) (fun hc1864 => ?_)
                              refine s_iconst (v := 4) kx_197_494 (by decide) ?_
                              refine s_goto (t := 499) kx_197_495 (by decide) ?_
                              refine r_ast (k := 85) kx_197_499 (tk_85 hT) ⟨by omega, by omega⟩ hI1854 (ru_85 (by omega) (by omega)) (fun M1865 hI1865 u1865 => ?_)
                              have hFm1865 := hFm1854.up u1865 rfl
                              have tr1866 := (u1865.2 63 3 (by omega))
                              have tr1867 := (u1865.2 63 4 (by omega))
                              have tr1868 := (u1865.2 63 5 (by omega))
                              have tr1869 := (u1865.2 63 9 (by omega))
                              have tr1870 := (u1865.2 63 35 (by omega))
                              have tr1871 := (u1865.2 63 42 (by omega))
                              have tr1872 := (u1865.2 63 43 (by omega))
                              have tr1873 := (u1865.2 63 45 (by omega))
                              refine s_aload_n kx_197_500 rfl ?_
                              refine r_getR (k := 63) (f := 38) (k2 := 86) kx_197_501 kp_197_127 (tk_63 hT) kf_12_38 (by decide) (rq_63_38 hI1865) ?_
                              refine s_iload_n kx_197_504 rfl ?_
                              refine s_iconst (v := 0) kx_197_505 (by decide) ?_
                              refine r_ast (k := 86) kx_197_506 (tk_86 hT) ⟨by omega, by omega⟩ hI1865 (ru_86 (by omega) (by omega)) (fun M1874 hI1874 u1874 => ?_)
                              have hFm1874 := hFm1865.up u1874 rfl
                              have tr1875 := (u1874.2 63 3 (by omega))
                              have tr1876 := (u1874.2 63 4 (by omega))
                              have tr1877 := (u1874.2 63 5 (by omega))
                              have tr1878 := (u1874.2 63 9 (by omega))
                              have tr1879 := (u1874.2 63 35 (by omega))
                              have tr1880 := (u1874.2 63 42 (by omega))
                              have tr1881 := (u1874.2 63 43 (by omega))
                              have tr1882 := (u1874.2 63 45 (by omega))
                              refine s_aload_n kx_197_507 rfl ?_
                              refine s_callV2 (k := 63) (s1 := 1) (s2 := 0) (as := []) (rest := []) kx_197_508 kp_197_286 (Or.inl rfl) rfl (tk_63 hT) ki_180 kcl_180 rfl rfl (by decide) (m_180 (d := d) hT hI1874) (kV (fun M1884 hI1884 fr1884 v1883p => ?_))
                              have hFm1884 := hFm1874.call fr1884 rfl
                              have tr1885 := (fr1884 63 9 rfl)
                              have tr1886 := (fr1884 63 35 rfl)
                              have tr1887 := (fr1884 63 42 rfl)
                              have tr1888 := (fr1884 63 43 rfl)
                              have tr1889 := (fr1884 63 45 rfl)
                              have tr1890 := rg_63_9 hI1884
                              refine s_aload_n kx_197_511 rfl ?_
                              refine s_iconst (v := 0) kx_197_512 (by decide) ?_
                              refine r_put (k := 63) (f := 46) kx_197_513 kp_197_152 (tk_63 hT) kf_12_46 rfl (by decide) (by decide) hI1884 (ru_63_46 (by omega) (by omega)) (fun M1891 hI1891 u1891 => ?_)
                              have hFm1891 := hFm1884.up u1891 rfl
                              have tr1892 := (u1891.2 63 3 (by omega))
                              have tr1893 := (u1891.2 63 4 (by omega))
                              have tr1894 := (u1891.2 63 5 (by omega))
                              have tr1895 := (u1891.2 63 9 (by omega))
                              have tr1896 := (u1891.2 63 35 (by omega))
                              have tr1897 := (u1891.2 63 42 (by omega))
                              have tr1898 := (u1891.2 63 43 (by omega))
                              have tr1899 := (u1891.2 63 45 (by omega))
                              refine s_iconst (v := 1) kx_197_516 (by decide) ?_
                              have hk1900 : M1891 63 9 = v11 := ((u1891.2 63 9 (by omega)).trans ((fr1884 63 9 rfl).trans ((u1874.2 63 9 (by omega)).trans ((u1865.2 63 9 (by omega)).trans ((fr1854 63 9 rfl).trans v11e)))))
                              exact s_iret kx_197_517 (Or.inr ⟨kq_197, by omega⟩) ⟨_, _, rfl, rfl, hI1891, hFm1891, ⟨by omega, by omega, (LXp.up (show LXp M1884 from v1883p.2) u1891 (by decide)), (by omega), (by omega), (Or.inr (Or.inr ⟨rfl, by omega, Or.inl ⟨u1891.1, PI.to7 (PI.fr (PI.fr (PI.phase (PI.comma v1853p (by omega) (by omega) u1865) (Or.inr (by omega)) (by omega) u1874) fr1884 rfl) (Up.fr u1891) rfl) (by omega)⟩⟩))⟩⟩
                            · replace v1850p := v1850p.resolve_left (by omega)
                              refine s_aload_n kx_197_461 rfl ?_
                              refine s_iconst (v := 1) kx_197_462 (by decide) ?_
                              refine s_aload_n kx_197_463 rfl ?_
                              refine r_getI (k := 63) (f := 4) kx_197_464 kp_197_23 (tk_63 hT) kf_12_4 (fun _ => rfl) (rg_63_4 hI2) (fun v1901 v1901e v1901a v1901b => ?_)
                              have v1901z : M 63 4 = v1901 := ((fr2 63 4 rfl)).symm.trans v1901e
                              refine s_callV2 (k := 63) (s1 := 3) (s2 := 0) (as := [(0, v1901), (0, 1)]) (rest := []) kx_197_467 kp_197_263 (Or.inl rfl) rfl (tk_63 hT) ki_176 kcl_176 rfl rfl (by decide) (m_176 (d := d + 1) (kind := 1) (place := v1901) hT hI2 (by omega)) (kV (fun M1903 hI1903 fr1903 v1902p => ?_))
                              have hFm1903 := hFm2.call fr1903 rfl
                              have tr1904 := (fr1903 63 3 rfl)
                              have tr1905 := (fr1903 63 4 rfl)
                              have tr1906 := (fr1903 63 5 rfl)
                              have tr1907 := (fr1903 63 35 rfl)
                              have tr1908 := (fr1903 63 42 rfl)
                              have tr1909 := (fr1903 63 43 rfl)
                              have tr1910 := (fr1903 63 45 rfl)
                              have tr1911 := rg_63_9 hI1903
                              refine s_aload_n kx_197_470 rfl ?_
                              refine r_getI (k := 63) (f := 9) kx_197_471 kp_197_39 (tk_63 hT) kf_12_9 (fun _ => rfl) (rg_63_9 hI1903) (fun v1912 v1912e v1912a v1912b => ?_)
                              refine s_if_le (t := 479) kx_197_474 (by decide) (fun hc1913 => ?_) (fun hc1913 => ?_)
                              · refine s_aload_n kx_197_479 rfl ?_
                                refine s_iconst (v := 1) kx_197_480 (by decide) ?_
                                refine s_callV2 (k := 63) (s1 := 2) (s2 := 0) (as := [(0, 1)]) (rest := []) kx_197_481 kp_197_370 (Or.inl rfl) rfl (tk_63 hT) ki_191 kcl_191 rfl rfl (by decide) (m_191 (d := d) (least := 1) hT hI1903 (PI.fr (PI.fr hP fr2 rfl) fr1903 rfl) (by omega) (by omega) (by omega)) (kV (fun M1915 hI1915 fr1915 v1914p => ?_))
                                have hFm1915 := hFm1903.call fr1915 rfl
                                have tr1916 := (fr1915 63 3 rfl)
                                have tr1917 := (fr1915 63 4 rfl)
                                have tr1918 := (fr1915 63 5 rfl)
                                have tr1919 := (fr1915 63 9 rfl)
                                have tr1920 := (fr1915 63 42 rfl)
                                have tr1921 := rg_63_9 hI1915
                                have hd1922 := PI.deep v1914p
                                have hs1923 := PI.small v1914p (rg_63_43 hI1915).2 (by decide)
                                have hs1923a := hs1923.1
                                have hs1923b := hs1923.2.1
                                have hs1923c := rg_63_45 hI1915
                                have hk851924 : M1915 85 ((v13 - 1)).toNat = v14 := ((fr1915 85 _ rfl).trans ((fr1903 85 _ rfl).trans v14e))
                                refine s_aload_n kx_197_484 rfl ?_
                                refine r_getR (k := 63) (f := 37) (k2 := 85) kx_197_485 kp_197_124 (tk_63 hT) kf_12_37 (by decide) (rq_63_37 hI1915) ?_
                                refine s_iload_n kx_197_488 rfl ?_
                                refine s_iload_n kx_197_489 rfl ?_
                                refine s_iconst (v := 3) kx_197_490 (by decide) ?_
                                refine s_icmp_ne (t := 498) kx_197_491 (by decide) (fun hc1925 => absurd hc1925 (by omega)) (fun hc1925 => ?_)
                                refine s_iconst (v := 4) kx_197_494 (by decide) ?_
                                refine s_goto (t := 499) kx_197_495 (by decide) ?_
                                refine r_ast (k := 85) kx_197_499 (tk_85 hT) ⟨by omega, by omega⟩ hI1915 (ru_85 (by omega) (by omega)) (fun M1926 hI1926 u1926 => ?_)
                                have hFm1926 := hFm1915.up u1926 rfl
                                have tr1927 := (u1926.2 63 3 (by omega))
                                have tr1928 := (u1926.2 63 4 (by omega))
                                have tr1929 := (u1926.2 63 5 (by omega))
                                have tr1930 := (u1926.2 63 9 (by omega))
                                have tr1931 := (u1926.2 63 35 (by omega))
                                have tr1932 := (u1926.2 63 42 (by omega))
                                have tr1933 := (u1926.2 63 43 (by omega))
                                have tr1934 := (u1926.2 63 45 (by omega))
                                refine s_aload_n kx_197_500 rfl ?_
                                refine r_getR (k := 63) (f := 38) (k2 := 86) kx_197_501 kp_197_127 (tk_63 hT) kf_12_38 (by decide) (rq_63_38 hI1926) ?_
                                refine s_iload_n kx_197_504 rfl ?_
                                refine s_iconst (v := 0) kx_197_505 (by decide) ?_
                                refine r_ast (k := 86) kx_197_506 (tk_86 hT) ⟨by omega, by omega⟩ hI1926 (ru_86 (by omega) (by omega)) (fun M1935 hI1935 u1935 => ?_)
                                have hFm1935 := hFm1926.up u1935 rfl
                                have tr1936 := (u1935.2 63 3 (by omega))
                                have tr1937 := (u1935.2 63 4 (by omega))
                                have tr1938 := (u1935.2 63 5 (by omega))
                                have tr1939 := (u1935.2 63 9 (by omega))
                                have tr1940 := (u1935.2 63 35 (by omega))
                                have tr1941 := (u1935.2 63 42 (by omega))
                                have tr1942 := (u1935.2 63 43 (by omega))
                                have tr1943 := (u1935.2 63 45 (by omega))
                                refine s_aload_n kx_197_507 rfl ?_
                                refine s_callV2 (k := 63) (s1 := 1) (s2 := 0) (as := []) (rest := []) kx_197_508 kp_197_286 (Or.inl rfl) rfl (tk_63 hT) ki_180 kcl_180 rfl rfl (by decide) (m_180 (d := d) hT hI1935) (kV (fun M1945 hI1945 fr1945 v1944p => ?_))
                                have hFm1945 := hFm1935.call fr1945 rfl
                                have tr1946 := (fr1945 63 9 rfl)
                                have tr1947 := (fr1945 63 35 rfl)
                                have tr1948 := (fr1945 63 42 rfl)
                                have tr1949 := (fr1945 63 43 rfl)
                                have tr1950 := (fr1945 63 45 rfl)
                                have tr1951 := rg_63_9 hI1945
                                refine s_aload_n kx_197_511 rfl ?_
                                refine s_iconst (v := 0) kx_197_512 (by decide) ?_
                                refine r_put (k := 63) (f := 46) kx_197_513 kp_197_152 (tk_63 hT) kf_12_46 rfl (by decide) (by decide) hI1945 (ru_63_46 (by omega) (by omega)) (fun M1952 hI1952 u1952 => ?_)
                                have hFm1952 := hFm1945.up u1952 rfl
                                have tr1953 := (u1952.2 63 3 (by omega))
                                have tr1954 := (u1952.2 63 4 (by omega))
                                have tr1955 := (u1952.2 63 5 (by omega))
                                have tr1956 := (u1952.2 63 9 (by omega))
                                have tr1957 := (u1952.2 63 35 (by omega))
                                have tr1958 := (u1952.2 63 42 (by omega))
                                have tr1959 := (u1952.2 63 43 (by omega))
                                have tr1960 := (u1952.2 63 45 (by omega))
                                refine s_iconst (v := 1) kx_197_516 (by decide) ?_
                                have hk1961 : M1952 63 9 = v1912 := ((u1952.2 63 9 (by omega)).trans ((fr1945 63 9 rfl).trans ((u1935.2 63 9 (by omega)).trans ((u1926.2 63 9 (by omega)).trans ((fr1915 63 9 rfl).trans v1912e)))))
                                exact s_iret kx_197_517 (Or.inr ⟨kq_197, by omega⟩) ⟨_, _, rfl, rfl, hI1952, hFm1952, ⟨by omega, by omega, (LXp.up (show LXp M1945 from v1944p.2) u1952 (by decide)), (by omega), (by omega), (Or.inr (Or.inr ⟨rfl, by omega, Or.inl ⟨u1952.1, PI.to7 (PI.fr (PI.fr (PI.phase (PI.comma v1914p (by omega) (by omega) u1926) (Or.inr (by omega)) (by omega) u1935) fr1945 rfl) (Up.fr u1952) rfl) (by omega)⟩⟩))⟩⟩
                              · refine s_iconst (v := 0) kx_197_477 (by decide) ?_
                                have hk1962 : M1903 63 4 = v1901 := ((fr1903 63 4 rfl).trans v1901e)
                                have hk1963 : M1903 63 9 = v1912 := v1912e
                                exact s_iret kx_197_478 (Or.inr ⟨kq_197, by omega⟩) ⟨_, _, rfl, rfl, hI1903, hFm1903, ⟨by omega, by omega, (LXp.fr (LXp.fr hX fr2 rfl) fr1903 rfl), (by omega), (by omega), (Or.inl (by omega))⟩⟩
                          · refine s_iload_n kx_197_446 rfl ?_
                            refine s_bipush (v := 6) kx_197_447 (by decide) ?_
                            refine s_icmp_ne (t := 518) kx_197_449 (by decide) (fun hc1964 => ?_) (fun hc1964 => ?_)
                            · refine s_aload_n kx_197_518 rfl ?_
                              refine s_iload_n kx_197_519 rfl ?_
                              refine s_iconst (v := 5) kx_197_520 (by decide) ?_
                              have jn1969 : ∀ (y1968 : Int), (41 ≤ y1968) → (y1968 ≤ 93) → cP k_P xs Ln (d + 2) 197 531 [(0, rf 63), (1, (0, (v13 - 1))), (2, (0, v14))] [(0, y1968), rf 63] (T, M2) (qW T M fS_197_m 0 (fun v M1 => 0 ≤ v ∧ v ≤ 1 ∧ (LXp M1 ∧ M 63 4 ≤ M1 63 4 ∧ M 63 9 ≤ M1 63 9 ∧ (GOd M M1 c a v)))) := by
                                intro y1968 a1970 a1971
                                refine s_callV2 (k := 63) (s1 := 2) (s2 := 0) (as := [(0, y1968)]) (rest := []) kx_197_531 kp_197_283 (Or.inl rfl) rfl (tk_63 hT) ki_181 kcl_181 rfl rfl (by decide) (m_181 (d := d + 1) (c := y1968) hT hI2) (kF (fun v1972 v1972p => ?_))
                                refine s_if_ne (t := 546) kx_197_534 (by decide) (fun hc1973 => ?_) (fun hc1973 => ?_)
                                · replace v1972p := v1972p.resolve_right (by omega)
                                  refine s_aload_n kx_197_546 rfl ?_
                                  refine r_getK (k := 63) (f := 9) kx_197_547 kp_197_39 (tk_63 hT) kf_12_9 (fun _ => rfl) v11e ?_
                                  refine s_if_le (t := 555) kx_197_550 (by decide) (fun hc1974 => ?_) (fun hc1974 => absurd hc1974 (by omega))
                                  refine s_aload_n kx_197_555 rfl ?_
                                  refine s_iconst (v := 1) kx_197_556 (by decide) ?_
                                  refine s_callV2 (k := 63) (s1 := 2) (s2 := 0) (as := [(0, 1)]) (rest := []) kx_197_557 kp_197_370 (Or.inl rfl) rfl (tk_63 hT) ki_191 kcl_191 rfl rfl (by decide) (m_191 (d := d) (least := 1) hT hI2 (PI.fr hP fr2 rfl) (by omega) (by omega) (by omega)) (kV (fun M1976 hI1976 fr1976 v1975p => ?_))
                                  have hFm1976 := hFm2.call fr1976 rfl
                                  have tr1977 := (fr1976 63 3 rfl)
                                  have tr1978 := (fr1976 63 4 rfl)
                                  have tr1979 := (fr1976 63 5 rfl)
                                  have tr1980 := (fr1976 63 9 rfl)
                                  have tr1981 := (fr1976 63 42 rfl)
                                  have tr1982 := rg_63_9 hI1976
                                  have hd1983 := PI.deep v1975p
                                  have hs1984 := PI.small v1975p (rg_63_43 hI1976).2 (by decide)
                                  have hs1984a := hs1984.1
                                  have hs1984b := hs1984.2.1
                                  have hs1984c := rg_63_45 hI1976
                                  refine s_aload_n kx_197_560 rfl ?_
                                  refine s_dup kx_197_561 rfl ?_
                                  refine r_getK (k := 63) (f := 42) kx_197_562 kp_197_140 (tk_63 hT) kf_12_42 (fun _ => rfl) ((fr1976 63 42 rfl).trans v13e) ?_
                                  refine s_iconst (v := 1) kx_197_565 (by decide) ?_
                                  refine r_sub kx_197_566 ⟨by omega, by omega⟩ ?_
                                  refine r_put (k := 63) (f := 42) kx_197_567 kp_197_140 (tk_63 hT) kf_12_42 rfl (by decide) (by decide) hI1976 (ru_63_42 (by omega) (by omega)) (fun M1985 hI1985 u1985 => ?_)
                                  have hFm1985 := hFm1976.up u1985 rfl
                                  have tr1986 := (u1985.2 63 3 (by omega))
                                  have tr1987 := (u1985.2 63 4 (by omega))
                                  have tr1988 := (u1985.2 63 5 (by omega))
                                  have tr1989 := (u1985.2 63 9 (by omega))
                                  have tr1990 := (u1985.2 63 35 (by omega))
                                  have tr1991 := u1985.1
                                  have tr1992 := (u1985.2 63 43 (by omega))
                                  have tr1993 := (u1985.2 63 45 (by omega))
                                  have hcl1994 := PI.close v1975p (by decide) (f := (v13 - 1)) (by omega) ((fr1976 85 _ rfl).trans v14e) (by omega) u1985 (by omega)
                                  have hcl1994d := hcl1994.2.2.1
                                  have hcl1994q := PI.deep hcl1994.1
                                  refine s_aload_n kx_197_570 rfl ?_
                                  refine s_dup kx_197_571 rfl ?_
                                  refine r_getI (k := 63) (f := 43) kx_197_572 kp_197_143 (tk_63 hT) kf_12_43 (fun _ => rfl) (rg_63_43 hI1985) (fun v1995 v1995e v1995a v1995b => ?_)
                                  refine s_iconst (v := 1) kx_197_575 (by decide) ?_
                                  refine r_sub kx_197_576 ⟨by omega, by omega⟩ ?_
                                  have hcl1994e := PI.e_le hcl1994.1
                                  refine r_put (k := 63) (f := 43) kx_197_577 kp_197_143 (tk_63 hT) kf_12_43 rfl (by decide) (by decide) hI1985 (ru_63_43 (by omega) (by omega)) (fun M1996 hI1996 u1996 => ?_)
                                  have hFm1996 := hFm1985.up u1996 rfl
                                  have tr1997 := (u1996.2 63 3 (by omega))
                                  have tr1998 := (u1996.2 63 4 (by omega))
                                  have tr1999 := (u1996.2 63 5 (by omega))
                                  have tr2000 := (u1996.2 63 9 (by omega))
                                  have tr2001 := (u1996.2 63 35 (by omega))
                                  have tr2002 := (u1996.2 63 42 (by omega))
                                  have tr2003 := u1996.1
                                  have tr2004 := (u1996.2 63 45 (by omega))
                                  have hP2005 := (PI.opn (e' := 0) hcl1994.1 u1996 (by omega))
                                  refine s_iload_n kx_197_580 rfl ?_
                                  refine s_iconst (v := 4) kx_197_581 (by decide) ?_
                                  refine s_icmp_ne (t := 596) kx_197_582 (by decide) (fun hc2006 => ?_) (fun hc2006 => ?_)
                                  · have hP2007 := PI.comp0 hP2005 (by omega)
                                    refine s_iload_n kx_197_596 rfl ?_
                                    refine s_iconst (v := 5) kx_197_597 (by decide) ?_
                                    refine s_icmp_ne (t := 613) kx_197_598 (by decide) (fun hc2008 => ?_) (fun hc2008 => ?_)
                                    · refine s_aload_n kx_197_613 rfl ?_
                                      refine s_callV2 (k := 63) (s1 := 1) (s2 := 0) (as := []) (rest := []) kx_197_614 kp_197_286 (Or.inl rfl) rfl (tk_63 hT) ki_180 kcl_180 rfl rfl (by decide) (m_180 (d := d) hT hI1996) (kV (fun M2010 hI2010 fr2010 v2009p => ?_))
                                      have hFm2010 := hFm1996.call fr2010 rfl
                                      have tr2011 := (fr2010 63 9 rfl)
                                      have tr2012 := (fr2010 63 35 rfl)
                                      have tr2013 := (fr2010 63 42 rfl)
                                      have tr2014 := (fr2010 63 43 rfl)
                                      have tr2015 := (fr2010 63 45 rfl)
                                      have tr2016 := rg_63_9 hI2010
                                      refine s_iconst (v := 1) kx_197_617 (by decide) ?_
                                      have hk2017 : M2010 63 9 = v11 := ((fr2010 63 9 rfl).trans ((u1996.2 63 9 (by omega)).trans ((u1985.2 63 9 (by omega)).trans ((fr1976 63 9 rfl).trans v11e))))
                                      exact s_iret kx_197_618 (Or.inr ⟨kq_197, by omega⟩) ⟨_, _, rfl, rfl, hI2010, hFm2010, ⟨by omega, by omega, (show LXp M2010 from v2009p.2), (by omega), (by omega), (Or.inr (Or.inr ⟨rfl, by omega, Or.inr ⟨((fr2010 63 46 rfl).trans ((u1996.2 63 46 (by omega)).trans ((u1985.2 63 46 (by omega)).trans ((fr1976 63 46 rfl).trans (fr2 63 46 rfl))))), (B0.fr (B0.up (show B0 M1985 from hcl1994.2.1) u1996 (by decide)) fr2010 rfl (fun _ => rfl)), PI.to7 (PI.fr hP2007 fr2010 rfl) (by omega)⟩⟩))⟩⟩
                                    · refine s_aload_n kx_197_601 rfl ?_
                                      refine r_getR (k := 63) (f := 38) (k2 := 86) kx_197_602 kp_197_127 (tk_63 hT) kf_12_38 (by decide) (rq_63_38 hI1996) ?_
                                      refine s_aload_n kx_197_605 rfl ?_
                                      refine r_getK (k := 63) (f := 42) kx_197_606 kp_197_140 (tk_63 hT) kf_12_42 (fun _ => rfl) ((u1996.2 63 42 (by omega)).trans u1985.1) ?_
                                      refine s_iconst (v := 1) kx_197_609 (by decide) ?_
                                      refine r_sub kx_197_610 ⟨by omega, by omega⟩ ?_
                                      refine s_iconst (v := 2) kx_197_611 (by decide) ?_
                                      refine r_ast (k := 86) kx_197_612 (tk_86 hT) ⟨by omega, by omega⟩ hI1996 (ru_86 (by omega) (by omega)) (fun M2018 hI2018 u2018 => ?_)
                                      have hFm2018 := hFm1996.up u2018 rfl
                                      have tr2019 := (u2018.2 63 3 (by omega))
                                      have tr2020 := (u2018.2 63 4 (by omega))
                                      have tr2021 := (u2018.2 63 5 (by omega))
                                      have tr2022 := (u2018.2 63 9 (by omega))
                                      have tr2023 := (u2018.2 63 35 (by omega))
                                      have tr2024 := (u2018.2 63 42 (by omega))
                                      have tr2025 := (u2018.2 63 43 (by omega))
                                      have tr2026 := (u2018.2 63 45 (by omega))
                                      refine s_aload_n kx_197_613 rfl ?_
                                      refine s_callV2 (k := 63) (s1 := 1) (s2 := 0) (as := []) (rest := []) kx_197_614 kp_197_286 (Or.inl rfl) rfl (tk_63 hT) ki_180 kcl_180 rfl rfl (by decide) (m_180 (d := d) hT hI2018) (kV (fun M2028 hI2028 fr2028 v2027p => ?_))
                                      have hFm2028 := hFm2018.call fr2028 rfl
                                      have tr2029 := (fr2028 63 9 rfl)
                                      have tr2030 := (fr2028 63 35 rfl)
                                      have tr2031 := (fr2028 63 42 rfl)
                                      have tr2032 := (fr2028 63 43 rfl)
                                      have tr2033 := (fr2028 63 45 rfl)
                                      have tr2034 := rg_63_9 hI2028
                                      refine s_iconst (v := 1) kx_197_617 (by decide) ?_
                                      have hk2035 : M2028 63 9 = v11 := ((fr2028 63 9 rfl).trans ((u2018.2 63 9 (by omega)).trans ((u1996.2 63 9 (by omega)).trans ((u1985.2 63 9 (by omega)).trans ((fr1976 63 9 rfl).trans v11e)))))
                                      exact s_iret kx_197_618 (Or.inr ⟨kq_197, by omega⟩) ⟨_, _, rfl, rfl, hI2028, hFm2028, ⟨by omega, by omega, (show LXp M2028 from v2027p.2), (by omega), (by omega), (Or.inr (Or.inr ⟨rfl, by omega, Or.inr ⟨((fr2028 63 46 rfl).trans ((u2018.2 63 46 (by omega)).trans ((u1996.2 63 46 (by omega)).trans ((u1985.2 63 46 (by omega)).trans ((fr1976 63 46 rfl).trans (fr2 63 46 rfl)))))), (B0.fr (B0.up (B0.up (show B0 M1985 from hcl1994.2.1) u1996 (by decide)) u2018 ⟨by decide, Or.inl (by decide)⟩) fr2028 rfl (fun _ => rfl)), PI.to7 (PI.fr (PI.phase hP2007 (Or.inl (by decide)) (by omega) u2018) fr2028 rfl) (by omega)⟩⟩))⟩⟩
                                  · refine s_aload_n kx_197_585 rfl ?_
                                    refine s_aload_n kx_197_586 rfl ?_
                                    refine r_getR (k := 63) (f := 40) (k2 := 88) kx_197_587 kp_197_134 (tk_63 hT) kf_12_40 (by decide) (rq_63_40 hI1996) ?_
                                    refine s_iload_n kx_197_590 rfl ?_
                                    refine r_ald (k := 88) kx_197_591 (tk_88 hT) ⟨by omega, by omega⟩ (rg_88 hI1996) (fun v2036 v2036e v2036a v2036b => ?_)
                                    have hpr2037 : v2036 = M1976 88 ((v13 - 1)).toNat := (v2036e).symm.trans ((u1996.2 88 _ (by omega)).trans (u1985.2 88 _ (by omega)))
                                    refine s_iconst (v := 0) kx_197_592 (by decide) ?_
                                    refine s_callV2 (k := 63) (s1 := 3) (s2 := 0) (as := [(0, 0), (0, v2036)]) (rest := []) kx_197_593 kp_197_352 (Or.inl rfl) rfl (tk_63 hT) ki_189 kcl_189 rfl rfl (by decide) (m_189 (d := d + 1) (sort := v2036) (v_ := 0) hT hI1996 (by omega) (by omega)) (kV (fun M2039 hI2039 fr2039 v2038p => ?_))
                                    have hFm2039 := hFm1996.call fr2039 rfl
                                    have tr2040 := (fr2039 63 3 rfl)
                                    have tr2041 := (fr2039 63 4 rfl)
                                    have tr2042 := (fr2039 63 5 rfl)
                                    have tr2043 := (fr2039 63 9 rfl)
                                    have tr2044 := (fr2039 63 42 rfl)
                                    have tr2045 := (fr2039 63 43 rfl)
                                    have tr2046 := (fr2039 63 45 rfl)
                                    have tr2047 := rg_63_9 hI2039
                                    have hP2048 := PI.code4 hP2005 (by omega) (hcl1994.2.2.2 (by omega)) fr2039 v2038p.1 (v2038p.2.1.trans hpr2037) v2038p.2.2
                                    refine s_iload_n kx_197_596 rfl ?_
                                    refine s_iconst (v := 5) kx_197_597 (by decide) ?_
                                    refine s_icmp_ne (t := 613) kx_197_598 (by decide) (fun hc2049 => ?_) (fun hc2049 => absurd hc2049 (by omega))
                                    refine s_aload_n kx_197_613 rfl ?_
                                    refine s_callV2 (k := 63) (s1 := 1) (s2 := 0) (as := []) (rest := []) kx_197_614 kp_197_286 (Or.inl rfl) rfl (tk_63 hT) ki_180 kcl_180 rfl rfl (by decide) (m_180 (d := d) hT hI2039) (kV (fun M2051 hI2051 fr2051 v2050p => ?_))
                                    have hFm2051 := hFm2039.call fr2051 rfl
                                    have tr2052 := (fr2051 63 9 rfl)
                                    have tr2053 := (fr2051 63 35 rfl)
                                    have tr2054 := (fr2051 63 42 rfl)
                                    have tr2055 := (fr2051 63 43 rfl)
                                    have tr2056 := (fr2051 63 45 rfl)
                                    have tr2057 := rg_63_9 hI2051
                                    refine s_iconst (v := 1) kx_197_617 (by decide) ?_
                                    have hk2058 : M2051 63 9 = v11 := ((fr2051 63 9 rfl).trans ((fr2039 63 9 rfl).trans ((u1996.2 63 9 (by omega)).trans ((u1985.2 63 9 (by omega)).trans ((fr1976 63 9 rfl).trans v11e)))))
                                    exact s_iret kx_197_618 (Or.inr ⟨kq_197, by omega⟩) ⟨_, _, rfl, rfl, hI2051, hFm2051, ⟨by omega, by omega, (show LXp M2051 from v2050p.2), (by omega), (by omega), (Or.inr (Or.inr ⟨rfl, by omega, Or.inr ⟨((fr2051 63 46 rfl).trans ((fr2039 63 46 rfl).trans ((u1996.2 63 46 (by omega)).trans ((u1985.2 63 46 (by omega)).trans ((fr1976 63 46 rfl).trans (fr2 63 46 rfl)))))), (B0.fr (B0.fr (B0.up (show B0 M1985 from hcl1994.2.1) u1996 (by decide)) fr2039 rfl (fun _ => rfl)) fr2051 rfl (fun _ => rfl)), PI.to7 (PI.fr hP2048 fr2051 rfl) (by omega)⟩⟩))⟩⟩
                                · replace v1972p := v1972p.resolve_left (by omega)
                                  refine s_aload_n kx_197_537 rfl ?_
                                  refine s_iconst (v := 1) kx_197_538 (by decide) ?_
                                  refine s_aload_n kx_197_539 rfl ?_
                                  refine r_getI (k := 63) (f := 4) kx_197_540 kp_197_23 (tk_63 hT) kf_12_4 (fun _ => rfl) (rg_63_4 hI2) (fun v2059 v2059e v2059a v2059b => ?_)
                                  have v2059z : M 63 4 = v2059 := ((fr2 63 4 rfl)).symm.trans v2059e
                                  refine s_callV2 (k := 63) (s1 := 3) (s2 := 0) (as := [(0, v2059), (0, 1)]) (rest := []) kx_197_543 kp_197_263 (Or.inl rfl) rfl (tk_63 hT) ki_176 kcl_176 rfl rfl (by decide) (m_176 (d := d + 1) (kind := 1) (place := v2059) hT hI2 (by omega)) (kV (fun M2061 hI2061 fr2061 v2060p => ?_))
                                  have hFm2061 := hFm2.call fr2061 rfl
                                  have tr2062 := (fr2061 63 3 rfl)
                                  have tr2063 := (fr2061 63 4 rfl)
                                  have tr2064 := (fr2061 63 5 rfl)
                                  have tr2065 := (fr2061 63 35 rfl)
                                  have tr2066 := (fr2061 63 42 rfl)
                                  have tr2067 := (fr2061 63 43 rfl)
                                  have tr2068 := (fr2061 63 45 rfl)
                                  have tr2069 := rg_63_9 hI2061
                                  refine s_aload_n kx_197_546 rfl ?_
                                  refine r_getI (k := 63) (f := 9) kx_197_547 kp_197_39 (tk_63 hT) kf_12_9 (fun _ => rfl) (rg_63_9 hI2061) (fun v2070 v2070e v2070a v2070b => ?_)
                                  refine s_if_le (t := 555) kx_197_550 (by decide) (fun hc2071 => ?_) (fun hc2071 => ?_)
                                  · refine s_aload_n kx_197_555 rfl ?_
                                    refine s_iconst (v := 1) kx_197_556 (by decide) ?_
                                    refine s_callV2 (k := 63) (s1 := 2) (s2 := 0) (as := [(0, 1)]) (rest := []) kx_197_557 kp_197_370 (Or.inl rfl) rfl (tk_63 hT) ki_191 kcl_191 rfl rfl (by decide) (m_191 (d := d) (least := 1) hT hI2061 (PI.fr (PI.fr hP fr2 rfl) fr2061 rfl) (by omega) (by omega) (by omega)) (kV (fun M2073 hI2073 fr2073 v2072p => ?_))
                                    have hFm2073 := hFm2061.call fr2073 rfl
                                    have tr2074 := (fr2073 63 3 rfl)
                                    have tr2075 := (fr2073 63 4 rfl)
                                    have tr2076 := (fr2073 63 5 rfl)
                                    have tr2077 := (fr2073 63 9 rfl)
                                    have tr2078 := (fr2073 63 42 rfl)
                                    have tr2079 := rg_63_9 hI2073
                                    have hd2080 := PI.deep v2072p
                                    have hs2081 := PI.small v2072p (rg_63_43 hI2073).2 (by decide)
                                    have hs2081a := hs2081.1
                                    have hs2081b := hs2081.2.1
                                    have hs2081c := rg_63_45 hI2073
                                    refine s_aload_n kx_197_560 rfl ?_
                                    refine s_dup kx_197_561 rfl ?_
                                    refine r_getK (k := 63) (f := 42) kx_197_562 kp_197_140 (tk_63 hT) kf_12_42 (fun _ => rfl) ((fr2073 63 42 rfl).trans ((fr2061 63 42 rfl).trans v13e)) ?_
                                    refine s_iconst (v := 1) kx_197_565 (by decide) ?_
                                    refine r_sub kx_197_566 ⟨by omega, by omega⟩ ?_
                                    refine r_put (k := 63) (f := 42) kx_197_567 kp_197_140 (tk_63 hT) kf_12_42 rfl (by decide) (by decide) hI2073 (ru_63_42 (by omega) (by omega)) (fun M2082 hI2082 u2082 => ?_)
                                    have hFm2082 := hFm2073.up u2082 rfl
                                    have tr2083 := (u2082.2 63 3 (by omega))
                                    have tr2084 := (u2082.2 63 4 (by omega))
                                    have tr2085 := (u2082.2 63 5 (by omega))
                                    have tr2086 := (u2082.2 63 9 (by omega))
                                    have tr2087 := (u2082.2 63 35 (by omega))
                                    have tr2088 := u2082.1
                                    have tr2089 := (u2082.2 63 43 (by omega))
                                    have tr2090 := (u2082.2 63 45 (by omega))
                                    have hcl2091 := PI.close v2072p (by decide) (f := (v13 - 1)) (by omega) ((fr2073 85 _ rfl).trans ((fr2061 85 _ rfl).trans v14e)) (by omega) u2082 (by omega)
                                    have hcl2091d := hcl2091.2.2.1
                                    have hcl2091q := PI.deep hcl2091.1
                                    refine s_aload_n kx_197_570 rfl ?_
                                    refine s_dup kx_197_571 rfl ?_
                                    refine r_getI (k := 63) (f := 43) kx_197_572 kp_197_143 (tk_63 hT) kf_12_43 (fun _ => rfl) (rg_63_43 hI2082) (fun v2092 v2092e v2092a v2092b => ?_)
                                    refine s_iconst (v := 1) kx_197_575 (by decide) ?_
                                    refine r_sub kx_197_576 ⟨by omega, by omega⟩ ?_
                                    have hcl2091e := PI.e_le hcl2091.1
                                    refine r_put (k := 63) (f := 43) kx_197_577 kp_197_143 (tk_63 hT) kf_12_43 rfl (by decide) (by decide) hI2082 (ru_63_43 (by omega) (by omega)) (fun M2093 hI2093 u2093 => ?_)
                                    have hFm2093 := hFm2082.up u2093 rfl
                                    have tr2094 := (u2093.2 63 3 (by omega))
                                    have tr2095 := (u2093.2 63 4 (by omega))
                                    have tr2096 := (u2093.2 63 5 (by omega))
                                    have tr2097 := (u2093.2 63 9 (by omega))
                                    have tr2098 := (u2093.2 63 35 (by omega))
                                    have tr2099 := (u2093.2 63 42 (by omega))
                                    have tr2100 := u2093.1
                                    have tr2101 := (u2093.2 63 45 (by omega))
                                    have hP2102 := (PI.opn (e' := 0) hcl2091.1 u2093 (by omega))
                                    refine s_iload_n kx_197_580 rfl ?_
                                    refine s_iconst (v := 4) kx_197_581 (by decide) ?_
                                    refine s_icmp_ne (t := 596) kx_197_582 (by decide) (fun hc2103 => ?_) (fun hc2103 => ?_)
                                    · have hP2104 := PI.comp0 hP2102 (by omega)
                                      refine s_iload_n kx_197_596 rfl ?_
                                      refine s_iconst (v := 5) kx_197_597 (by decide) ?_
                                      refine s_icmp_ne (t := 613) kx_197_598 (by decide) (fun hc2105 => ?_) (fun hc2105 => ?_)
                                      · refine s_aload_n kx_197_613 rfl ?_
                                        refine s_callV2 (k := 63) (s1 := 1) (s2 := 0) (as := []) (rest := []) kx_197_614 kp_197_286 (Or.inl rfl) rfl (tk_63 hT) ki_180 kcl_180 rfl rfl (by decide) (m_180 (d := d) hT hI2093) (kV (fun M2107 hI2107 fr2107 v2106p => ?_))
                                        have hFm2107 := hFm2093.call fr2107 rfl
                                        have tr2108 := (fr2107 63 9 rfl)
                                        have tr2109 := (fr2107 63 35 rfl)
                                        have tr2110 := (fr2107 63 42 rfl)
                                        have tr2111 := (fr2107 63 43 rfl)
                                        have tr2112 := (fr2107 63 45 rfl)
                                        have tr2113 := rg_63_9 hI2107
                                        refine s_iconst (v := 1) kx_197_617 (by decide) ?_
                                        have hk2114 : M2107 63 9 = v2070 := ((fr2107 63 9 rfl).trans ((u2093.2 63 9 (by omega)).trans ((u2082.2 63 9 (by omega)).trans ((fr2073 63 9 rfl).trans v2070e))))
                                        exact s_iret kx_197_618 (Or.inr ⟨kq_197, by omega⟩) ⟨_, _, rfl, rfl, hI2107, hFm2107, ⟨by omega, by omega, (show LXp M2107 from v2106p.2), (by omega), (by omega), (Or.inr (Or.inr ⟨rfl, by omega, Or.inr ⟨((fr2107 63 46 rfl).trans ((u2093.2 63 46 (by omega)).trans ((u2082.2 63 46 (by omega)).trans ((fr2073 63 46 rfl).trans ((fr2061 63 46 rfl).trans (fr2 63 46 rfl)))))), (B0.fr (B0.up (show B0 M2082 from hcl2091.2.1) u2093 (by decide)) fr2107 rfl (fun _ => rfl)), PI.to7 (PI.fr hP2104 fr2107 rfl) (by omega)⟩⟩))⟩⟩
                                      · refine s_aload_n kx_197_601 rfl ?_
                                        refine r_getR (k := 63) (f := 38) (k2 := 86) kx_197_602 kp_197_127 (tk_63 hT) kf_12_38 (by decide) (rq_63_38 hI2093) ?_
                                        refine s_aload_n kx_197_605 rfl ?_
                                        refine r_getK (k := 63) (f := 42) kx_197_606 kp_197_140 (tk_63 hT) kf_12_42 (fun _ => rfl) ((u2093.2 63 42 (by omega)).trans u2082.1) ?_
                                        refine s_iconst (v := 1) kx_197_609 (by decide) ?_
                                        refine r_sub kx_197_610 ⟨by omega, by omega⟩ ?_
                                        refine s_iconst (v := 2) kx_197_611 (by decide) ?_
                                        refine r_ast (k := 86) kx_197_612 (tk_86 hT) ⟨by omega, by omega⟩ hI2093 (ru_86 (by omega) (by omega)) (fun M2115 hI2115 u2115 => ?_)
                                        have hFm2115 := hFm2093.up u2115 rfl
                                        have tr2116 := (u2115.2 63 3 (by omega))
                                        have tr2117 := (u2115.2 63 4 (by omega))
                                        have tr2118 := (u2115.2 63 5 (by omega))
                                        have tr2119 := (u2115.2 63 9 (by omega))
                                        have tr2120 := (u2115.2 63 35 (by omega))
                                        have tr2121 := (u2115.2 63 42 (by omega))
                                        have tr2122 := (u2115.2 63 43 (by omega))
                                        have tr2123 := (u2115.2 63 45 (by omega))
                                        refine s_aload_n kx_197_613 rfl ?_
                                        refine s_callV2 (k := 63) (s1 := 1) (s2 := 0) (as := []) (rest := []) kx_197_614 kp_197_286 (Or.inl rfl) rfl (tk_63 hT) ki_180 kcl_180 rfl rfl (by decide) (m_180 (d := d) hT hI2115) (kV (fun M2125 hI2125 fr2125 v2124p => ?_))
                                        have hFm2125 := hFm2115.call fr2125 rfl
                                        have tr2126 := (fr2125 63 9 rfl)
                                        have tr2127 := (fr2125 63 35 rfl)
                                        have tr2128 := (fr2125 63 42 rfl)
                                        have tr2129 := (fr2125 63 43 rfl)
                                        have tr2130 := (fr2125 63 45 rfl)
                                        have tr2131 := rg_63_9 hI2125
                                        refine s_iconst (v := 1) kx_197_617 (by decide) ?_
                                        have hk2132 : M2125 63 9 = v2070 := ((fr2125 63 9 rfl).trans ((u2115.2 63 9 (by omega)).trans ((u2093.2 63 9 (by omega)).trans ((u2082.2 63 9 (by omega)).trans ((fr2073 63 9 rfl).trans v2070e)))))
                                        exact s_iret kx_197_618 (Or.inr ⟨kq_197, by omega⟩) ⟨_, _, rfl, rfl, hI2125, hFm2125, ⟨by omega, by omega, (show LXp M2125 from v2124p.2), (by omega), (by omega), (Or.inr (Or.inr ⟨rfl, by omega, Or.inr ⟨((fr2125 63 46 rfl).trans ((u2115.2 63 46 (by omega)).trans ((u2093.2 63 46 (by omega)).trans ((u2082.2 63 46 (by omega)).trans ((fr2073 63 46 rfl).trans ((fr2061 63 46 rfl).trans (fr2 63 46 rfl))))))), (B0.fr (B0.up (B0.up (show B0 M2082 from hcl2091.2.1) u2093 (by decide)) u2115 ⟨by decide, Or.inl (by decide)⟩) fr2125 rfl (fun _ => rfl)), PI.to7 (PI.fr (PI.phase hP2104 (Or.inl (by decide)) (by omega) u2115) fr2125 rfl) (by omega)⟩⟩))⟩⟩
                                    · refine s_aload_n kx_197_585 rfl ?_
                                      refine s_aload_n kx_197_586 rfl ?_
                                      refine r_getR (k := 63) (f := 40) (k2 := 88) kx_197_587 kp_197_134 (tk_63 hT) kf_12_40 (by decide) (rq_63_40 hI2093) ?_
                                      refine s_iload_n kx_197_590 rfl ?_
                                      refine r_ald (k := 88) kx_197_591 (tk_88 hT) ⟨by omega, by omega⟩ (rg_88 hI2093) (fun v2133 v2133e v2133a v2133b => ?_)
                                      have hpr2134 : v2133 = M2073 88 ((v13 - 1)).toNat := (v2133e).symm.trans ((u2093.2 88 _ (by omega)).trans (u2082.2 88 _ (by omega)))
                                      refine s_iconst (v := 0) kx_197_592 (by decide) ?_
                                      refine s_callV2 (k := 63) (s1 := 3) (s2 := 0) (as := [(0, 0), (0, v2133)]) (rest := []) kx_197_593 kp_197_352 (Or.inl rfl) rfl (tk_63 hT) ki_189 kcl_189 rfl rfl (by decide) (m_189 (d := d + 1) (sort := v2133) (v_ := 0) hT hI2093 (by omega) (by omega)) (kV (fun M2136 hI2136 fr2136 v2135p => ?_))
                                      have hFm2136 := hFm2093.call fr2136 rfl
                                      have tr2137 := (fr2136 63 3 rfl)
                                      have tr2138 := (fr2136 63 4 rfl)
                                      have tr2139 := (fr2136 63 5 rfl)
                                      have tr2140 := (fr2136 63 9 rfl)
                                      have tr2141 := (fr2136 63 42 rfl)
                                      have tr2142 := (fr2136 63 43 rfl)
                                      have tr2143 := (fr2136 63 45 rfl)
                                      have tr2144 := rg_63_9 hI2136
                                      have hP2145 := PI.code4 hP2102 (by omega) (hcl2091.2.2.2 (by omega)) fr2136 v2135p.1 (v2135p.2.1.trans hpr2134) v2135p.2.2
                                      refine s_iload_n kx_197_596 rfl ?_
                                      refine s_iconst (v := 5) kx_197_597 (by decide) ?_
                                      refine s_icmp_ne (t := 613) kx_197_598 (by decide) (fun hc2146 => ?_) (fun hc2146 => absurd hc2146 (by omega))
                                      refine s_aload_n kx_197_613 rfl ?_
                                      refine s_callV2 (k := 63) (s1 := 1) (s2 := 0) (as := []) (rest := []) kx_197_614 kp_197_286 (Or.inl rfl) rfl (tk_63 hT) ki_180 kcl_180 rfl rfl (by decide) (m_180 (d := d) hT hI2136) (kV (fun M2148 hI2148 fr2148 v2147p => ?_))
                                      have hFm2148 := hFm2136.call fr2148 rfl
                                      have tr2149 := (fr2148 63 9 rfl)
                                      have tr2150 := (fr2148 63 35 rfl)
                                      have tr2151 := (fr2148 63 42 rfl)
                                      have tr2152 := (fr2148 63 43 rfl)
                                      have tr2153 := (fr2148 63 45 rfl)
                                      have tr2154 := rg_63_9 hI2148
                                      refine s_iconst (v := 1) kx_197_617 (by decide) ?_
                                      have hk2155 : M2148 63 9 = v2070 := ((fr2148 63 9 rfl).trans ((fr2136 63 9 rfl).trans ((u2093.2 63 9 (by omega)).trans ((u2082.2 63 9 (by omega)).trans ((fr2073 63 9 rfl).trans v2070e)))))
                                      exact s_iret kx_197_618 (Or.inr ⟨kq_197, by omega⟩) ⟨_, _, rfl, rfl, hI2148, hFm2148, ⟨by omega, by omega, (show LXp M2148 from v2147p.2), (by omega), (by omega), (Or.inr (Or.inr ⟨rfl, by omega, Or.inr ⟨((fr2148 63 46 rfl).trans ((fr2136 63 46 rfl).trans ((u2093.2 63 46 (by omega)).trans ((u2082.2 63 46 (by omega)).trans ((fr2073 63 46 rfl).trans ((fr2061 63 46 rfl).trans (fr2 63 46 rfl))))))), (B0.fr (B0.fr (B0.up (show B0 M2082 from hcl2091.2.1) u2093 (by decide)) fr2136 rfl (fun _ => rfl)) fr2148 rfl (fun _ => rfl)), PI.to7 (PI.fr hP2145 fr2148 rfl) (by omega)⟩⟩))⟩⟩
                                  · refine s_iconst (v := 0) kx_197_553 (by decide) ?_
                                    have hk2156 : M2061 63 4 = v2059 := ((fr2061 63 4 rfl).trans v2059e)
                                    have hk2157 : M2061 63 9 = v2070 := v2070e
                                    exact s_iret kx_197_554 (Or.inr ⟨kq_197, by omega⟩) ⟨_, _, rfl, rfl, hI2061, hFm2061, ⟨by omega, by omega, (LXp.fr (LXp.fr hX fr2 rfl) fr2061 rfl), (by omega), (by omega), (Or.inl (by omega))⟩⟩
                              refine s_icmp_ne (t := 529) kx_197_521 (by decide) (fun hc1965 => ?_) (fun hc1965 => ?_)
                              · have hJ1966 : Fr fS_197_j521 M2 M2 := Fr.refl
                                refine s_bipush (v := 41) kx_197_529 (by decide) ?_
                                exact cP.wk (lS1 rfl (lS1 rfl (lS1 rfl lS0))) (jn1969 41 (by omega) (by omega))
                              · have hJ1967 : Fr fS_197_j521 M2 M2 := Fr.refl
                                refine s_bipush (v := 93) kx_197_524 (by decide) ?_
                                refine s_goto (t := 531) kx_197_526 (by decide) ?_
                                exact cP.wk (lS1 rfl (lS1 rfl (lS1 rfl lS0))) (jn1969 93 (by omega) (by omega))
                            · refine s_aload_n kx_197_452 rfl ?_
                              refine s_bipush (v := 44) kx_197_453 (by decide) ?_
                              refine s_callV2 (k := 63) (s1 := 2) (s2 := 0) (as := [(0, 44)]) (rest := []) kx_197_455 kp_197_283 (Or.inl rfl) rfl (tk_63 hT) ki_181 kcl_181 rfl rfl (by decide) (m_181 (d := d + 1) (c := 44) hT hI2) (kF (fun v2158 v2158p => ?_))
                              refine s_if_ne (t := 470) kx_197_458 (by decide) (fun hc2159 => ?_) (fun hc2159 => ?_)
                              · replace v2158p := v2158p.resolve_right (by omega)
                                refine s_aload_n kx_197_470 rfl ?_
                                refine r_getK (k := 63) (f := 9) kx_197_471 kp_197_39 (tk_63 hT) kf_12_9 (fun _ => rfl) v11e ?_
                                refine s_if_le (t := 479) kx_197_474 (by decide) (fun hc2160 => ?_) (fun hc2160 => absurd hc2160 (by omega))
                                refine s_aload_n kx_197_479 rfl ?_
                                refine s_iconst (v := 1) kx_197_480 (by decide) ?_
                                refine s_callV2 (k := 63) (s1 := 2) (s2 := 0) (as := [(0, 1)]) (rest := []) kx_197_481 kp_197_370 (Or.inl rfl) rfl (tk_63 hT) ki_191 kcl_191 rfl rfl (by decide) (m_191 (d := d) (least := 1) hT hI2 (PI.fr hP fr2 rfl) (by omega) (by omega) (by omega)) (kV (fun M2162 hI2162 fr2162 v2161p => ?_))
                                have hFm2162 := hFm2.call fr2162 rfl
                                have tr2163 := (fr2162 63 3 rfl)
                                have tr2164 := (fr2162 63 4 rfl)
                                have tr2165 := (fr2162 63 5 rfl)
                                have tr2166 := (fr2162 63 9 rfl)
                                have tr2167 := (fr2162 63 42 rfl)
                                have tr2168 := rg_63_9 hI2162
                                have hd2169 := PI.deep v2161p
                                have hs2170 := PI.small v2161p (rg_63_43 hI2162).2 (by decide)
                                have hs2170a := hs2170.1
                                have hs2170b := hs2170.2.1
                                have hs2170c := rg_63_45 hI2162
                                have hk852171 : M2162 85 ((v13 - 1)).toNat = v14 := ((fr2162 85 _ rfl).trans v14e)
                                refine s_aload_n kx_197_484 rfl ?_
                                refine r_getR (k := 63) (f := 37) (k2 := 85) kx_197_485 kp_197_124 (tk_63 hT) kf_12_37 (by decide) (rq_63_37 hI2162) ?_
                                refine s_iload_n kx_197_488 rfl ?_
                                refine s_iload_n kx_197_489 rfl ?_
                                refine s_iconst (v := 3) kx_197_490 (by decide) ?_
                                refine s_icmp_ne (t := 498) kx_197_491 (by decide) (fun hc2172 => ?_) (fun hc2172 => absurd hc2172 (by omega))
                                refine s_iconst (v := 3) kx_197_498 (by decide) ?_
                                refine r_ast (k := 85) kx_197_499 (tk_85 hT) ⟨by omega, by omega⟩ hI2162 (ru_85 (by omega) (by omega)) (fun M2173 hI2173 u2173 => ?_)
                                have hFm2173 := hFm2162.up u2173 rfl
                                have tr2174 := (u2173.2 63 3 (by omega))
                                have tr2175 := (u2173.2 63 4 (by omega))
                                have tr2176 := (u2173.2 63 5 (by omega))
                                have tr2177 := (u2173.2 63 9 (by omega))
                                have tr2178 := (u2173.2 63 35 (by omega))
                                have tr2179 := (u2173.2 63 42 (by omega))
                                have tr2180 := (u2173.2 63 43 (by omega))
                                have tr2181 := (u2173.2 63 45 (by omega))
                                refine s_aload_n kx_197_500 rfl ?_
                                refine r_getR (k := 63) (f := 38) (k2 := 86) kx_197_501 kp_197_127 (tk_63 hT) kf_12_38 (by decide) (rq_63_38 hI2173) ?_
                                refine s_iload_n kx_197_504 rfl ?_
                                refine s_iconst (v := 0) kx_197_505 (by decide) ?_
                                refine r_ast (k := 86) kx_197_506 (tk_86 hT) ⟨by omega, by omega⟩ hI2173 (ru_86 (by omega) (by omega)) (fun M2182 hI2182 u2182 => ?_)
                                have hFm2182 := hFm2173.up u2182 rfl
                                have tr2183 := (u2182.2 63 3 (by omega))
                                have tr2184 := (u2182.2 63 4 (by omega))
                                have tr2185 := (u2182.2 63 5 (by omega))
                                have tr2186 := (u2182.2 63 9 (by omega))
                                have tr2187 := (u2182.2 63 35 (by omega))
                                have tr2188 := (u2182.2 63 42 (by omega))
                                have tr2189 := (u2182.2 63 43 (by omega))
                                have tr2190 := (u2182.2 63 45 (by omega))
                                refine s_aload_n kx_197_507 rfl ?_
                                refine s_callV2 (k := 63) (s1 := 1) (s2 := 0) (as := []) (rest := []) kx_197_508 kp_197_286 (Or.inl rfl) rfl (tk_63 hT) ki_180 kcl_180 rfl rfl (by decide) (m_180 (d := d) hT hI2182) (kV (fun M2192 hI2192 fr2192 v2191p => ?_))
                                have hFm2192 := hFm2182.call fr2192 rfl
                                have tr2193 := (fr2192 63 9 rfl)
                                have tr2194 := (fr2192 63 35 rfl)
                                have tr2195 := (fr2192 63 42 rfl)
                                have tr2196 := (fr2192 63 43 rfl)
                                have tr2197 := (fr2192 63 45 rfl)
                                have tr2198 := rg_63_9 hI2192
                                refine s_aload_n kx_197_511 rfl ?_
                                refine s_iconst (v := 0) kx_197_512 (by decide) ?_
                                refine r_put (k := 63) (f := 46) kx_197_513 kp_197_152 (tk_63 hT) kf_12_46 rfl (by decide) (by decide) hI2192 (ru_63_46 (by omega) (by omega)) (fun M2199 hI2199 u2199 => ?_)
                                have hFm2199 := hFm2192.up u2199 rfl
                                have tr2200 := (u2199.2 63 3 (by omega))
                                have tr2201 := (u2199.2 63 4 (by omega))
                                have tr2202 := (u2199.2 63 5 (by omega))
                                have tr2203 := (u2199.2 63 9 (by omega))
                                have tr2204 := (u2199.2 63 35 (by omega))
                                have tr2205 := (u2199.2 63 42 (by omega))
                                have tr2206 := (u2199.2 63 43 (by omega))
                                have tr2207 := (u2199.2 63 45 (by omega))
                                refine s_iconst (v := 1) kx_197_516 (by decide) ?_
                                have hk2208 : M2199 63 9 = v11 := ((u2199.2 63 9 (by omega)).trans ((fr2192 63 9 rfl).trans ((u2182.2 63 9 (by omega)).trans ((u2173.2 63 9 (by omega)).trans ((fr2162 63 9 rfl).trans v11e)))))
                                exact s_iret kx_197_517 (Or.inr ⟨kq_197, by omega⟩) ⟨_, _, rfl, rfl, hI2199, hFm2199, ⟨by omega, by omega, (LXp.up (show LXp M2192 from v2191p.2) u2199 (by decide)), (by omega), (by omega), (Or.inr (Or.inr ⟨rfl, by omega, Or.inl ⟨u2199.1, PI.to7 (PI.fr (PI.fr (PI.phase (PI.comma v2161p (by omega) (by omega) u2173) (Or.inr (by omega)) (by omega) u2182) fr2192 rfl) (Up.fr u2199) rfl) (by omega)⟩⟩))⟩⟩
                              · replace v2158p := v2158p.resolve_left (by omega)
                                refine s_aload_n kx_197_461 rfl ?_
                                refine s_iconst (v := 1) kx_197_462 (by decide) ?_
                                refine s_aload_n kx_197_463 rfl ?_
                                refine r_getI (k := 63) (f := 4) kx_197_464 kp_197_23 (tk_63 hT) kf_12_4 (fun _ => rfl) (rg_63_4 hI2) (fun v2209 v2209e v2209a v2209b => ?_)
                                have v2209z : M 63 4 = v2209 := ((fr2 63 4 rfl)).symm.trans v2209e
                                refine s_callV2 (k := 63) (s1 := 3) (s2 := 0) (as := [(0, v2209), (0, 1)]) (rest := []) kx_197_467 kp_197_263 (Or.inl rfl) rfl (tk_63 hT) ki_176 kcl_176 rfl rfl (by decide) (m_176 (d := d + 1) (kind := 1) (place := v2209) hT hI2 (by omega)) (kV (fun M2211 hI2211 fr2211 v2210p => ?_))
                                have hFm2211 := hFm2.call fr2211 rfl
                                have tr2212 := (fr2211 63 3 rfl)
                                have tr2213 := (fr2211 63 4 rfl)
                                have tr2214 := (fr2211 63 5 rfl)
                                have tr2215 := (fr2211 63 35 rfl)
                                have tr2216 := (fr2211 63 42 rfl)
                                have tr2217 := (fr2211 63 43 rfl)
                                have tr2218 := (fr2211 63 45 rfl)
                                have tr2219 := rg_63_9 hI2211
                                refine s_aload_n kx_197_470 rfl ?_
                                refine r_getI (k := 63) (f := 9) kx_197_471 kp_197_39 (tk_63 hT) kf_12_9 (fun _ => rfl) (rg_63_9 hI2211) (fun v2220 v2220e v2220a v2220b => ?_)
                                refine s_if_le (t := 479) kx_197_474 (by decide) (fun hc2221 => ?_) (fun hc2221 => ?_)
                                · refine s_aload_n kx_197_479 rfl ?_
                                  refine s_iconst (v := 1) kx_197_480 (by decide) ?_
                                  refine s_callV2 (k := 63) (s1 := 2) (s2 := 0) (as := [(0, 1)]) (rest := []) kx_197_481 kp_197_370 (Or.inl rfl) rfl (tk_63 hT) ki_191 kcl_191 rfl rfl (by decide) (m_191 (d := d) (least := 1) hT hI2211 (PI.fr (PI.fr hP fr2 rfl) fr2211 rfl) (by omega) (by omega) (by omega)) (kV (fun M2223 hI2223 fr2223 v2222p => ?_))
                                  have hFm2223 := hFm2211.call fr2223 rfl
                                  have tr2224 := (fr2223 63 3 rfl)
                                  have tr2225 := (fr2223 63 4 rfl)
                                  have tr2226 := (fr2223 63 5 rfl)
                                  have tr2227 := (fr2223 63 9 rfl)
                                  have tr2228 := (fr2223 63 42 rfl)
                                  have tr2229 := rg_63_9 hI2223
                                  have hd2230 := PI.deep v2222p
                                  have hs2231 := PI.small v2222p (rg_63_43 hI2223).2 (by decide)
                                  have hs2231a := hs2231.1
                                  have hs2231b := hs2231.2.1
                                  have hs2231c := rg_63_45 hI2223
                                  have hk852232 : M2223 85 ((v13 - 1)).toNat = v14 := ((fr2223 85 _ rfl).trans ((fr2211 85 _ rfl).trans v14e))
                                  refine s_aload_n kx_197_484 rfl ?_
                                  refine r_getR (k := 63) (f := 37) (k2 := 85) kx_197_485 kp_197_124 (tk_63 hT) kf_12_37 (by decide) (rq_63_37 hI2223) ?_
                                  refine s_iload_n kx_197_488 rfl ?_
                                  refine s_iload_n kx_197_489 rfl ?_
                                  refine s_iconst (v := 3) kx_197_490 (by decide) ?_
                                  refine s_icmp_ne (t := 498) kx_197_491 (by decide) (fun hc2233 => ?_) (fun hc2233 => absurd hc2233 (by omega))
                                  refine s_iconst (v := 3) kx_197_498 (by decide) ?_
                                  refine r_ast (k := 85) kx_197_499 (tk_85 hT) ⟨by omega, by omega⟩ hI2223 (ru_85 (by omega) (by omega)) (fun M2234 hI2234 u2234 => ?_)
                                  have hFm2234 := hFm2223.up u2234 rfl
                                  have tr2235 := (u2234.2 63 3 (by omega))
                                  have tr2236 := (u2234.2 63 4 (by omega))
                                  have tr2237 := (u2234.2 63 5 (by omega))
                                  have tr2238 := (u2234.2 63 9 (by omega))
                                  have tr2239 := (u2234.2 63 35 (by omega))
                                  have tr2240 := (u2234.2 63 42 (by omega))
                                  have tr2241 := (u2234.2 63 43 (by omega))
                                  have tr2242 := (u2234.2 63 45 (by omega))
                                  refine s_aload_n kx_197_500 rfl ?_
                                  refine r_getR (k := 63) (f := 38) (k2 := 86) kx_197_501 kp_197_127 (tk_63 hT) kf_12_38 (by decide) (rq_63_38 hI2234) ?_
                                  refine s_iload_n kx_197_504 rfl ?_
                                  refine s_iconst (v := 0) kx_197_505 (by decide) ?_
                                  refine r_ast (k := 86) kx_197_506 (tk_86 hT) ⟨by omega, by omega⟩ hI2234 (ru_86 (by omega) (by omega)) (fun M2243 hI2243 u2243 => ?_)
                                  have hFm2243 := hFm2234.up u2243 rfl
                                  have tr2244 := (u2243.2 63 3 (by omega))
                                  have tr2245 := (u2243.2 63 4 (by omega))
                                  have tr2246 := (u2243.2 63 5 (by omega))
                                  have tr2247 := (u2243.2 63 9 (by omega))
                                  have tr2248 := (u2243.2 63 35 (by omega))
                                  have tr2249 := (u2243.2 63 42 (by omega))
                                  have tr2250 := (u2243.2 63 43 (by omega))
                                  have tr2251 := (u2243.2 63 45 (by omega))
                                  refine s_aload_n kx_197_507 rfl ?_
                                  refine s_callV2 (k := 63) (s1 := 1) (s2 := 0) (as := []) (rest := []) kx_197_508 kp_197_286 (Or.inl rfl) rfl (tk_63 hT) ki_180 kcl_180 rfl rfl (by decide) (m_180 (d := d) hT hI2243) (kV (fun M2253 hI2253 fr2253 v2252p => ?_))
                                  have hFm2253 := hFm2243.call fr2253 rfl
                                  have tr2254 := (fr2253 63 9 rfl)
                                  have tr2255 := (fr2253 63 35 rfl)
                                  have tr2256 := (fr2253 63 42 rfl)
                                  have tr2257 := (fr2253 63 43 rfl)
                                  have tr2258 := (fr2253 63 45 rfl)
                                  have tr2259 := rg_63_9 hI2253
                                  refine s_aload_n kx_197_511 rfl ?_
                                  refine s_iconst (v := 0) kx_197_512 (by decide) ?_
                                  refine r_put (k := 63) (f := 46) kx_197_513 kp_197_152 (tk_63 hT) kf_12_46 rfl (by decide) (by decide) hI2253 (ru_63_46 (by omega) (by omega)) (fun M2260 hI2260 u2260 => ?_)
                                  have hFm2260 := hFm2253.up u2260 rfl
                                  have tr2261 := (u2260.2 63 3 (by omega))
                                  have tr2262 := (u2260.2 63 4 (by omega))
                                  have tr2263 := (u2260.2 63 5 (by omega))
                                  have tr2264 := (u2260.2 63 9 (by omega))
                                  have tr2265 := (u2260.2 63 35 (by omega))
                                  have tr2266 := (u2260.2 63 42 (by omega))
                                  have tr2267 := (u2260.2 63 43 (by omega))
                                  have tr2268 := (u2260.2 63 45 (by omega))
                                  refine s_iconst (v := 1) kx_197_516 (by decide) ?_
                                  have hk2269 : M2260 63 9 = v2220 := ((u2260.2 63 9 (by omega)).trans ((fr2253 63 9 rfl).trans ((u2243.2 63 9 (by omega)).trans ((u2234.2 63 9 (by omega)).trans ((fr2223 63 9 rfl).trans v2220e)))))
                                  exact s_iret kx_197_517 (Or.inr ⟨kq_197, by omega⟩) ⟨_, _, rfl, rfl, hI2260, hFm2260, ⟨by omega, by omega, (LXp.up (show LXp M2253 from v2252p.2) u2260 (by decide)), (by omega), (by omega), (Or.inr (Or.inr ⟨rfl, by omega, Or.inl ⟨u2260.1, PI.to7 (PI.fr (PI.fr (PI.phase (PI.comma v2222p (by omega) (by omega) u2234) (Or.inr (by omega)) (by omega) u2243) fr2253 rfl) (Up.fr u2260) rfl) (by omega)⟩⟩))⟩⟩
                                · refine s_iconst (v := 0) kx_197_477 (by decide) ?_
                                  have hk2270 : M2211 63 4 = v2209 := ((fr2211 63 4 rfl).trans v2209e)
                                  have hk2271 : M2211 63 9 = v2220 := v2220e
                                  exact s_iret kx_197_478 (Or.inr ⟨kq_197, by omega⟩) ⟨_, _, rfl, rfl, hI2211, hFm2211, ⟨by omega, by omega, (LXp.fr (LXp.fr hX fr2 rfl) fr2211 rfl), (by omega), (by omega), (Or.inl (by omega))⟩⟩
                        · refine s_aload_n kx_197_427 rfl ?_
                          refine r_getK (k := 63) (f := 9) kx_197_428 kp_197_39 (tk_63 hT) kf_12_9 (fun _ => rfl) v11e ?_
                          refine s_if_ne (t := 439) kx_197_431 (by decide) (fun hc2272 => absurd hc2272 (by omega)) (fun hc2272 => ?_)
                          refine s_aload_n kx_197_434 rfl ?_
                          refine s_iconst (v := 1) kx_197_435 (by decide) ?_
                          refine s_callV2 (k := 63) (s1 := 2) (s2 := 0) (as := [(0, 1)]) (rest := []) kx_197_436 kp_197_370 (Or.inl rfl) rfl (tk_63 hT) ki_191 kcl_191 rfl rfl (by decide) (m_191 (d := d) (least := 1) hT hI2 (PI.fr hP fr2 rfl) (by omega) (by omega) (by omega)) (kV (fun M2274 hI2274 fr2274 v2273p => ?_))
                          have hFm2274 := hFm2.call fr2274 rfl
                          have tr2275 := (fr2274 63 3 rfl)
                          have tr2276 := (fr2274 63 4 rfl)
                          have tr2277 := (fr2274 63 5 rfl)
                          have tr2278 := (fr2274 63 9 rfl)
                          have tr2279 := (fr2274 63 42 rfl)
                          have tr2280 := rg_63_9 hI2274
                          refine s_iconst (v := 0) kx_197_439 (by decide) ?_
                          have hk2281 : M2274 63 9 = v11 := ((fr2274 63 9 rfl).trans v11e)
                          exact s_iret kx_197_440 (Or.inr ⟨kq_197, by omega⟩) ⟨_, _, rfl, rfl, hI2274, hFm2274, ⟨by omega, by omega, (LXp.fr (LXp.fr hX fr2 rfl) fr2274 rfl), (by omega), (by omega), (if h9 : 1 ≤ M2274 63 9 then Or.inl h9 else Or.inr (Or.inl ⟨rfl, PI.to7 v2273p (by omega)⟩))⟩⟩
                      · replace v1844p := v1844p.resolve_right (by omega)
                        refine s_aload_n kx_197_309 rfl ?_
                        refine r_getR (k := 63) (f := 38) (k2 := 86) kx_197_310 kp_197_127 (tk_63 hT) kf_12_38 (by decide) (rq_63_38 hI2) ?_
                        refine s_iload_n kx_197_313 rfl ?_
                        refine r_aldK (k := 86) kx_197_314 (tk_86 hT) ⟨by omega, by omega⟩ v16e ?_
                        refine s_if_ne (t := 327) kx_197_315 (by decide) (fun hc2282 => ?_) (fun hc2282 => absurd hc2282 (by omega))
                        refine s_aload_n kx_197_327 rfl ?_
                        refine r_getK (k := 63) (f := 9) kx_197_328 kp_197_39 (tk_63 hT) kf_12_9 (fun _ => rfl) v11e ?_
                        refine s_if_le (t := 336) kx_197_331 (by decide) (fun hc2283 => ?_) (fun hc2283 => absurd hc2283 (by omega))
                        refine s_aload_n kx_197_336 rfl ?_
                        refine s_ldc2_w kx_197_337 kp_197_327 ?_
                        refine s_callV2 (k := 63) (s1 := 3) (s2 := 0) (as := [(1, 6385252)]) (rest := []) kx_197_340 kp_197_361 (Or.inl rfl) rfl (tk_63 hT) ki_182 kcl_182 rfl rfl (by decide) (m_182 (d := d + 1) (w := 6385252) hT hI2) (kF (fun v2284 v2284p => ?_))
                        refine s_istore kx_197_343 km_197_4 rfl ?_
                        refine s_aload_n kx_197_345 rfl ?_
                        refine s_iload kx_197_346 rfl ?_
                        have jn2289 : ∀ (y2288 : Int), (1 ≤ y2288) → (y2288 ≤ 2) → ((y2288 = 2 ∧ v2284 ≠ 0) ∨ (y2288 = 1 ∧ v2284 = 0)) → cP k_P xs Ln (d + 2) 197 356 [(0, rf 63), (1, (0, (v13 - 1))), (4, (0, v2284))] [(0, y2288), rf 63] (T, M2) (qW T M fS_197_m 0 (fun v M1 => 0 ≤ v ∧ v ≤ 1 ∧ (LXp M1 ∧ M 63 4 ≤ M1 63 4 ∧ M 63 9 ≤ M1 63 9 ∧ (GOd M M1 c a v)))) := by
                          intro y2288 a2290 a2291 a2292
                          refine s_callV2 (k := 63) (s1 := 2) (s2 := 0) (as := [(0, y2288)]) (rest := []) kx_197_356 kp_197_370 (Or.inl rfl) rfl (tk_63 hT) ki_191 kcl_191 rfl rfl (by decide) (m_191 (d := d) (least := y2288) hT hI2 (PI.fr hP fr2 rfl) (by omega) (by omega) (by omega)) (kV (fun M2294 hI2294 fr2294 v2293p => ?_))
                          have hFm2294 := hFm2.call fr2294 rfl
                          have tr2295 := (fr2294 63 3 rfl)
                          have tr2296 := (fr2294 63 4 rfl)
                          have tr2297 := (fr2294 63 5 rfl)
                          have tr2298 := (fr2294 63 9 rfl)
                          have tr2299 := (fr2294 63 42 rfl)
                          have tr2300 := rg_63_9 hI2294
                          have hd2301 := PI.deep v2293p
                          have hs2302 := PI.small v2293p (rg_63_43 hI2294).2 (by decide)
                          have hs2302a := hs2302.1
                          have hs2302b := hs2302.2.1
                          have hs2302c := rg_63_45 hI2294
                          refine s_aload_n kx_197_359 rfl ?_
                          refine s_iload kx_197_360 rfl ?_
                          have jn2307 : ∀ (y2306 : Int), (20 ≤ y2306) → (y2306 ≤ 21) → ((y2306 = 20 ∧ v2284 ≠ 0) ∨ (y2306 = 21 ∧ v2284 = 0)) → cP k_P xs Ln (d + 2) 197 372 [(0, rf 63), (1, (0, (v13 - 1)))] [(0, y2306), rf 63] (T, M2294) (qW T M fS_197_m 0 (fun v M1 => 0 ≤ v ∧ v ≤ 1 ∧ (LXp M1 ∧ M 63 4 ≤ M1 63 4 ∧ M 63 9 ≤ M1 63 9 ∧ (GOd M M1 c a v)))) := by
                            intro y2306 a2308 a2309 a2310
                            refine s_callV2 (k := 63) (s1 := 2) (s2 := 0) (as := [(0, y2306)]) (rest := []) kx_197_372 kp_197_364 (Or.inl rfl) rfl (tk_63 hT) ki_192 kcl_192 rfl rfl (by decide) (m_192 (d := d + 1) (op := y2306) hT hI2294 (by omega) (by omega)) (kV (fun M2312 hI2312 fr2312 v2311p => ?_))
                            have hFm2312 := hFm2294.call fr2312 rfl
                            have tr2313 := (fr2312 63 3 rfl)
                            have tr2314 := (fr2312 63 4 rfl)
                            have tr2315 := (fr2312 63 5 rfl)
                            have tr2316 := (fr2312 63 9 rfl)
                            have tr2317 := (fr2312 63 35 rfl)
                            have tr2318 := (fr2312 63 42 rfl)
                            have tr2319 := (fr2312 63 43 rfl)
                            have tr2320 := rg_63_9 hI2312
                            have hP2321 := PI.holdL v2293p (B0.fr (B0.fr hB fr2 rfl (fun _ => rfl)) fr2294 rfl (fun _ => rfl)) (by omega) fr2312 v2311p.1 v2311p.2.1 v2311p.2.2
                            refine s_aload_n kx_197_375 rfl ?_
                            refine r_getR (k := 63) (f := 38) (k2 := 86) kx_197_376 kp_197_127 (tk_63 hT) kf_12_38 (by decide) (rq_63_38 hI2312) ?_
                            refine s_iload_n kx_197_379 rfl ?_
                            refine s_iconst (v := 0) kx_197_380 (by decide) ?_
                            refine r_ast (k := 86) kx_197_381 (tk_86 hT) ⟨by omega, by omega⟩ hI2312 (ru_86 (by omega) (by omega)) (fun M2322 hI2322 u2322 => ?_)
                            have hFm2322 := hFm2312.up u2322 rfl
                            have tr2323 := (u2322.2 63 3 (by omega))
                            have tr2324 := (u2322.2 63 4 (by omega))
                            have tr2325 := (u2322.2 63 5 (by omega))
                            have tr2326 := (u2322.2 63 9 (by omega))
                            have tr2327 := (u2322.2 63 35 (by omega))
                            have tr2328 := (u2322.2 63 42 (by omega))
                            have tr2329 := (u2322.2 63 43 (by omega))
                            have tr2330 := (u2322.2 63 45 (by omega))
                            refine s_aload_n kx_197_382 rfl ?_
                            refine r_getR (k := 63) (f := 39) (k2 := 87) kx_197_383 kp_197_130 (tk_63 hT) kf_12_39 (by decide) (rq_63_39 hI2322) ?_
                            refine s_iload_n kx_197_386 rfl ?_
                            refine s_iconst (v := 1) kx_197_387 (by decide) ?_
                            refine r_bast (k := 87) kx_197_388 (tk_87 hT) ⟨by omega, by omega⟩ (by omega) hI2322 (ru_87 (by omega) (by omega)) (fun M2331 hI2331 u2331 => ?_)
                            have hFm2331 := hFm2322.up u2331 rfl
                            have tr2332 := (u2331.2 63 3 (by omega))
                            have tr2333 := (u2331.2 63 4 (by omega))
                            have tr2334 := (u2331.2 63 5 (by omega))
                            have tr2335 := (u2331.2 63 9 (by omega))
                            have tr2336 := (u2331.2 63 35 (by omega))
                            have tr2337 := (u2331.2 63 42 (by omega))
                            have tr2338 := (u2331.2 63 43 (by omega))
                            have tr2339 := (u2331.2 63 45 (by omega))
                            refine s_aload_n kx_197_389 rfl ?_
                            refine s_callV2 (k := 63) (s1 := 1) (s2 := 0) (as := []) (rest := []) kx_197_390 kp_197_286 (Or.inl rfl) rfl (tk_63 hT) ki_180 kcl_180 rfl rfl (by decide) (m_180 (d := d) hT hI2331) (kV (fun M2341 hI2341 fr2341 v2340p => ?_))
                            have hFm2341 := hFm2331.call fr2341 rfl
                            have tr2342 := (fr2341 63 9 rfl)
                            have tr2343 := (fr2341 63 35 rfl)
                            have tr2344 := (fr2341 63 42 rfl)
                            have tr2345 := (fr2341 63 43 rfl)
                            have tr2346 := (fr2341 63 45 rfl)
                            have tr2347 := rg_63_9 hI2341
                            refine s_aload_n kx_197_393 rfl ?_
                            refine s_iconst (v := 0) kx_197_394 (by decide) ?_
                            refine r_put (k := 63) (f := 46) kx_197_395 kp_197_152 (tk_63 hT) kf_12_46 rfl (by decide) (by decide) hI2341 (ru_63_46 (by omega) (by omega)) (fun M2348 hI2348 u2348 => ?_)
                            have hFm2348 := hFm2341.up u2348 rfl
                            have tr2349 := (u2348.2 63 3 (by omega))
                            have tr2350 := (u2348.2 63 4 (by omega))
                            have tr2351 := (u2348.2 63 5 (by omega))
                            have tr2352 := (u2348.2 63 9 (by omega))
                            have tr2353 := (u2348.2 63 35 (by omega))
                            have tr2354 := (u2348.2 63 42 (by omega))
                            have tr2355 := (u2348.2 63 43 (by omega))
                            have tr2356 := (u2348.2 63 45 (by omega))
                            refine s_iconst (v := 1) kx_197_398 (by decide) ?_
                            have hk2357 : M2348 63 9 = v11 := ((u2348.2 63 9 (by omega)).trans ((fr2341 63 9 rfl).trans ((u2331.2 63 9 (by omega)).trans ((u2322.2 63 9 (by omega)).trans ((fr2312 63 9 rfl).trans ((fr2294 63 9 rfl).trans v11e))))))
                            exact s_iret kx_197_399 (Or.inr ⟨kq_197, by omega⟩) ⟨_, _, rfl, rfl, hI2348, hFm2348, ⟨by omega, by omega, (LXp.up (show LXp M2341 from v2340p.2) u2348 (by decide)), (by omega), (by omega), (Or.inr (Or.inr ⟨rfl, by omega, Or.inl ⟨u2348.1, PI.to7 (PI.fr (PI.fr (PI.begins1 (PI.phase hP2321 (Or.inr (by omega)) (by omega) u2322) (by omega) (by omega) u2331) fr2341 rfl) (Up.fr u2348) rfl) (by omega)⟩⟩))⟩⟩
                          refine s_if_eq (t := 370) kx_197_362 (by decide) (fun hc2303 => ?_) (fun hc2303 => ?_)
                          · have hJ2304 : Fr fS_197_j362 M2294 M2294 := Fr.refl
                            refine s_bipush (v := 21) kx_197_370 (by decide) ?_
                            exact cP.wk (lS1 rfl (lS1 rfl lS0)) (jn2307 21 (by omega) (by omega) (by omega))
                          · have hJ2305 : Fr fS_197_j362 M2294 M2294 := Fr.refl
                            refine s_bipush (v := 20) kx_197_365 (by decide) ?_
                            refine s_goto (t := 372) kx_197_367 (by decide) ?_
                            exact cP.wk (lS1 rfl (lS1 rfl lS0)) (jn2307 20 (by omega) (by omega) (by omega))
                        refine s_if_eq (t := 355) kx_197_348 (by decide) (fun hc2285 => ?_) (fun hc2285 => ?_)
                        · have hJ2286 : Fr fS_197_j348 M2 M2 := Fr.refl
                          replace v2284p := v2284p.resolve_left (by omega)
                          refine s_iconst (v := 1) kx_197_355 (by decide) ?_
                          exact cP.wk (lS1 rfl (lS1 rfl (lS1 rfl lS0))) (jn2289 1 (by omega) (by omega) (by omega))
                        · have hJ2287 : Fr fS_197_j348 M2 M2 := Fr.refl
                          replace v2284p := v2284p.resolve_right (by omega)
                          refine s_iconst (v := 2) kx_197_351 (by decide) ?_
                          refine s_goto (t := 356) kx_197_352 (by decide) ?_
                          exact cP.wk (lS1 rfl (lS1 rfl (lS1 rfl lS0))) (jn2289 2 (by omega) (by omega) (by omega))
                  · have hph2358 : M2 86 ((v13 - 1)).toNat = 0 := by omega
                    refine s_aload_n kx_197_201 rfl ?_
                    refine s_bipush (v := 60) kx_197_202 (by decide) ?_
                    refine s_callV2 (k := 63) (s1 := 2) (s2 := 0) (as := [(0, 60)]) (rest := []) kx_197_204 kp_197_283 (Or.inl rfl) rfl (tk_63 hT) ki_181 kcl_181 rfl rfl (by decide) (m_181 (d := d + 1) (c := 60) hT hI2) (kF (fun v2359 v2359p => ?_))
                    refine s_if_ne (t := 228) kx_197_207 (by decide) (fun hc2360 => ?_) (fun hc2360 => ?_)
                    · replace v2359p := v2359p.resolve_right (by omega)
                      refine s_aload_n kx_197_228 rfl ?_
                      refine s_iconst (v := 5) kx_197_229 (by decide) ?_
                      refine s_callV2 (k := 63) (s1 := 2) (s2 := 0) (as := [(0, 5)]) (rest := []) kx_197_230 kp_197_370 (Or.inl rfl) rfl (tk_63 hT) ki_191 kcl_191 rfl rfl (by decide) (m_191 (d := d) (least := 5) hT hI2 (PI.fr hP fr2 rfl) (by omega) (by omega) (by omega)) (kV (fun M2362 hI2362 fr2362 v2361p => ?_))
                      have hFm2362 := hFm2.call fr2362 rfl
                      have tr2363 := (fr2362 63 3 rfl)
                      have tr2364 := (fr2362 63 4 rfl)
                      have tr2365 := (fr2362 63 5 rfl)
                      have tr2366 := (fr2362 63 9 rfl)
                      have tr2367 := (fr2362 63 42 rfl)
                      have tr2368 := rg_63_9 hI2362
                      have hd2369 := PI.deep v2361p
                      have hs2370 := PI.small v2361p (rg_63_43 hI2362).2 (by decide)
                      have hs2370a := hs2370.1
                      have hs2370b := hs2370.2.1
                      have hs2370c := rg_63_45 hI2362
                      refine s_aload_n kx_197_233 rfl ?_
                      refine s_aload_n kx_197_234 rfl ?_
                      refine s_bipush (v := 60) kx_197_235 (by decide) ?_
                      refine s_callV2 (k := 63) (s1 := 2) (s2 := 1) (as := [(0, 60)]) (rest := [rf 63]) kx_197_237 kp_197_283 (Or.inl rfl) rfl (tk_63 hT) ki_181 kcl_181 rfl rfl (by decide) (m_181 (d := d + 1) (c := 60) hT hI2362) (kF (fun v2371 v2371p => ?_))
                      have jn2378 : ∀ (y2377 : Int), (17 ≤ y2377) → (y2377 ≤ 19) → (17 ≤ y2377 ∧ y2377 ≤ 19) → cP k_P xs Ln (d + 2) 197 264 [(0, rf 63), (1, (0, (v13 - 1)))] [(0, y2377), rf 63] (T, M2362) (qW T M fS_197_m 0 (fun v M1 => 0 ≤ v ∧ v ≤ 1 ∧ (LXp M1 ∧ M 63 4 ≤ M1 63 4 ∧ M 63 9 ≤ M1 63 9 ∧ (GOd M M1 c a v)))) := by
                        intro y2377 a2379 a2380 a2381
                        refine s_callV2 (k := 63) (s1 := 2) (s2 := 0) (as := [(0, y2377)]) (rest := []) kx_197_264 kp_197_364 (Or.inl rfl) rfl (tk_63 hT) ki_192 kcl_192 rfl rfl (by decide) (m_192 (d := d + 1) (op := y2377) hT hI2362 (by omega) (by omega)) (kV (fun M2383 hI2383 fr2383 v2382p => ?_))
                        have hFm2383 := hFm2362.call fr2383 rfl
                        have tr2384 := (fr2383 63 3 rfl)
                        have tr2385 := (fr2383 63 4 rfl)
                        have tr2386 := (fr2383 63 5 rfl)
                        have tr2387 := (fr2383 63 9 rfl)
                        have tr2388 := (fr2383 63 35 rfl)
                        have tr2389 := (fr2383 63 42 rfl)
                        have tr2390 := (fr2383 63 43 rfl)
                        have tr2391 := rg_63_9 hI2383
                        refine s_aload_n kx_197_267 rfl ?_
                        refine r_getR (k := 63) (f := 38) (k2 := 86) kx_197_268 kp_197_127 (tk_63 hT) kf_12_38 (by decide) (rq_63_38 hI2383) ?_
                        refine s_iload_n kx_197_271 rfl ?_
                        refine s_iconst (v := 1) kx_197_272 (by decide) ?_
                        refine r_ast (k := 86) kx_197_273 (tk_86 hT) ⟨by omega, by omega⟩ hI2383 (ru_86 (by omega) (by omega)) (fun M2393 hI2393 u2393 => ?_)
                        have hFm2393 := hFm2383.up u2393 rfl
                        have tr2394 := (u2393.2 63 3 (by omega))
                        have tr2395 := (u2393.2 63 4 (by omega))
                        have tr2396 := (u2393.2 63 5 (by omega))
                        have tr2397 := (u2393.2 63 9 (by omega))
                        have tr2398 := (u2393.2 63 35 (by omega))
                        have tr2399 := (u2393.2 63 42 (by omega))
                        have tr2400 := (u2393.2 63 43 (by omega))
                        have tr2401 := (u2393.2 63 45 (by omega))
                        have hP2402 := PI.holdC v2361p (f := (v13 - 1)) (by omega) ((fr2362 86 _ rfl).trans hph2358) (B0.fr (B0.fr hB fr2 rfl (fun _ => rfl)) fr2362 rfl (fun _ => rfl)) (by omega) fr2383 v2382p.1 v2382p.2.1 v2382p.2.2 u2393
                        refine s_aload_n kx_197_274 rfl ?_
                        refine s_callV2 (k := 63) (s1 := 1) (s2 := 0) (as := []) (rest := []) kx_197_275 kp_197_286 (Or.inl rfl) rfl (tk_63 hT) ki_180 kcl_180 rfl rfl (by decide) (m_180 (d := d) hT hI2393) (kV (fun M2404 hI2404 fr2404 v2403p => ?_))
                        have hFm2404 := hFm2393.call fr2404 rfl
                        have tr2405 := (fr2404 63 9 rfl)
                        have tr2406 := (fr2404 63 35 rfl)
                        have tr2407 := (fr2404 63 42 rfl)
                        have tr2408 := (fr2404 63 43 rfl)
                        have tr2409 := (fr2404 63 45 rfl)
                        have tr2410 := rg_63_9 hI2404
                        refine s_aload_n kx_197_278 rfl ?_
                        refine s_iconst (v := 0) kx_197_279 (by decide) ?_
                        refine r_put (k := 63) (f := 46) kx_197_280 kp_197_152 (tk_63 hT) kf_12_46 rfl (by decide) (by decide) hI2404 (ru_63_46 (by omega) (by omega)) (fun M2411 hI2411 u2411 => ?_)
                        have hFm2411 := hFm2404.up u2411 rfl
                        have tr2412 := (u2411.2 63 3 (by omega))
                        have tr2413 := (u2411.2 63 4 (by omega))
                        have tr2414 := (u2411.2 63 5 (by omega))
                        have tr2415 := (u2411.2 63 9 (by omega))
                        have tr2416 := (u2411.2 63 35 (by omega))
                        have tr2417 := (u2411.2 63 42 (by omega))
                        have tr2418 := (u2411.2 63 43 (by omega))
                        have tr2419 := (u2411.2 63 45 (by omega))
                        refine s_iconst (v := 1) kx_197_283 (by decide) ?_
                        have hk2420 : M2411 63 9 = v11 := ((u2411.2 63 9 (by omega)).trans ((fr2404 63 9 rfl).trans ((u2393.2 63 9 (by omega)).trans ((fr2383 63 9 rfl).trans ((fr2362 63 9 rfl).trans v11e)))))
                        exact s_iret kx_197_284 (Or.inr ⟨kq_197, by omega⟩) ⟨_, _, rfl, rfl, hI2411, hFm2411, ⟨by omega, by omega, (LXp.up (show LXp M2404 from v2403p.2) u2411 (by decide)), (by omega), (by omega), (Or.inr (Or.inr ⟨rfl, by omega, Or.inl ⟨u2411.1, PI.to7 (PI.fr (PI.fr hP2402 fr2404 rfl) (Up.fr u2411) rfl) (by omega)⟩⟩))⟩⟩
                      refine s_if_eq (t := 248) kx_197_240 (by decide) (fun hc2372 => ?_) (fun hc2372 => ?_)
                      · have hJ2373 : Fr fS_197_j240 M2362 M2362 := Fr.refl
                        replace v2371p := v2371p.resolve_left (by omega)
                        refine s_aload_n kx_197_248 rfl ?_
                        refine s_bipush (v := 62) kx_197_249 (by decide) ?_
                        refine s_callV2 (k := 63) (s1 := 2) (s2 := 1) (as := [(0, 62)]) (rest := [rf 63]) kx_197_251 kp_197_283 (Or.inl rfl) rfl (tk_63 hT) ki_181 kcl_181 rfl rfl (by decide) (m_181 (d := d + 1) (c := 62) hT hI2362) (kF (fun v2374 v2374p => ?_))
                        refine s_if_eq (t := 262) kx_197_254 (by decide) (fun hc2375 => ?_) (fun hc2375 => ?_)
                        · replace v2374p := v2374p.resolve_left (by omega)
                          refine s_bipush (v := 19) kx_197_262 (by decide) ?_
                          exact cP.wk (lS1 rfl (lS1 rfl lS0)) (jn2378 19 (by omega) (by omega) (by omega))
                        · replace v2374p := v2374p.resolve_right (by omega)
                          refine s_bipush (v := 18) kx_197_257 (by decide) ?_
                          refine s_goto (t := 264) kx_197_259 (by decide) ?_
                          exact cP.wk (lS1 rfl (lS1 rfl lS0)) (jn2378 18 (by omega) (by omega) (by omega))
                      · have hJ2376 : Fr fS_197_j240 M2362 M2362 := Fr.refl
                        replace v2371p := v2371p.resolve_right (by omega)
                        refine s_bipush (v := 17) kx_197_243 (by decide) ?_
                        refine s_goto (t := 264) kx_197_245 (by decide) ?_
                        exact cP.wk (lS1 rfl (lS1 rfl lS0)) (jn2378 17 (by omega) (by omega) (by omega))
                    · replace v2359p := v2359p.resolve_left (by omega)
                      refine s_aload_n kx_197_210 rfl ?_
                      refine s_bipush (v := 62) kx_197_211 (by decide) ?_
                      refine s_callV2 (k := 63) (s1 := 2) (s2 := 0) (as := [(0, 62)]) (rest := []) kx_197_213 kp_197_283 (Or.inl rfl) rfl (tk_63 hT) ki_181 kcl_181 rfl rfl (by decide) (m_181 (d := d + 1) (c := 62) hT hI2) (kF (fun v2421 v2421p => ?_))
                      refine s_if_ne (t := 228) kx_197_216 (by decide) (fun hc2422 => ?_) (fun hc2422 => ?_)
                      · replace v2421p := v2421p.resolve_right (by omega)
                        refine s_aload_n kx_197_228 rfl ?_
                        refine s_iconst (v := 5) kx_197_229 (by decide) ?_
                        refine s_callV2 (k := 63) (s1 := 2) (s2 := 0) (as := [(0, 5)]) (rest := []) kx_197_230 kp_197_370 (Or.inl rfl) rfl (tk_63 hT) ki_191 kcl_191 rfl rfl (by decide) (m_191 (d := d) (least := 5) hT hI2 (PI.fr hP fr2 rfl) (by omega) (by omega) (by omega)) (kV (fun M2424 hI2424 fr2424 v2423p => ?_))
                        have hFm2424 := hFm2.call fr2424 rfl
                        have tr2425 := (fr2424 63 3 rfl)
                        have tr2426 := (fr2424 63 4 rfl)
                        have tr2427 := (fr2424 63 5 rfl)
                        have tr2428 := (fr2424 63 9 rfl)
                        have tr2429 := (fr2424 63 42 rfl)
                        have tr2430 := rg_63_9 hI2424
                        have hd2431 := PI.deep v2423p
                        have hs2432 := PI.small v2423p (rg_63_43 hI2424).2 (by decide)
                        have hs2432a := hs2432.1
                        have hs2432b := hs2432.2.1
                        have hs2432c := rg_63_45 hI2424
                        refine s_aload_n kx_197_233 rfl ?_
                        refine s_aload_n kx_197_234 rfl ?_
                        refine s_bipush (v := 60) kx_197_235 (by decide) ?_
                        refine s_callV2 (k := 63) (s1 := 2) (s2 := 1) (as := [(0, 60)]) (rest := [rf 63]) kx_197_237 kp_197_283 (Or.inl rfl) rfl (tk_63 hT) ki_181 kcl_181 rfl rfl (by decide) (m_181 (d := d + 1) (c := 60) hT hI2424) (kF (fun v2433 v2433p => ?_))
                        have jn2440 : ∀ (y2439 : Int), (17 ≤ y2439) → (y2439 ≤ 19) → (17 ≤ y2439 ∧ y2439 ≤ 19) → cP k_P xs Ln (d + 2) 197 264 [(0, rf 63), (1, (0, (v13 - 1)))] [(0, y2439), rf 63] (T, M2424) (qW T M fS_197_m 0 (fun v M1 => 0 ≤ v ∧ v ≤ 1 ∧ (LXp M1 ∧ M 63 4 ≤ M1 63 4 ∧ M 63 9 ≤ M1 63 9 ∧ (GOd M M1 c a v)))) := by
                          intro y2439 a2441 a2442 a2443
                          refine s_callV2 (k := 63) (s1 := 2) (s2 := 0) (as := [(0, y2439)]) (rest := []) kx_197_264 kp_197_364 (Or.inl rfl) rfl (tk_63 hT) ki_192 kcl_192 rfl rfl (by decide) (m_192 (d := d + 1) (op := y2439) hT hI2424 (by omega) (by omega)) (kV (fun M2445 hI2445 fr2445 v2444p => ?_))
                          have hFm2445 := hFm2424.call fr2445 rfl
                          have tr2446 := (fr2445 63 3 rfl)
                          have tr2447 := (fr2445 63 4 rfl)
                          have tr2448 := (fr2445 63 5 rfl)
                          have tr2449 := (fr2445 63 9 rfl)
                          have tr2450 := (fr2445 63 35 rfl)
                          have tr2451 := (fr2445 63 42 rfl)
                          have tr2452 := (fr2445 63 43 rfl)
                          have tr2453 := rg_63_9 hI2445
                          refine s_aload_n kx_197_267 rfl ?_
                          refine r_getR (k := 63) (f := 38) (k2 := 86) kx_197_268 kp_197_127 (tk_63 hT) kf_12_38 (by decide) (rq_63_38 hI2445) ?_
                          refine s_iload_n kx_197_271 rfl ?_
                          refine s_iconst (v := 1) kx_197_272 (by decide) ?_
                          refine r_ast (k := 86) kx_197_273 (tk_86 hT) ⟨by omega, by omega⟩ hI2445 (ru_86 (by omega) (by omega)) (fun M2455 hI2455 u2455 => ?_)
                          have hFm2455 := hFm2445.up u2455 rfl
                          have tr2456 := (u2455.2 63 3 (by omega))
                          have tr2457 := (u2455.2 63 4 (by omega))
                          have tr2458 := (u2455.2 63 5 (by omega))
                          have tr2459 := (u2455.2 63 9 (by omega))
                          have tr2460 := (u2455.2 63 35 (by omega))
                          have tr2461 := (u2455.2 63 42 (by omega))
                          have tr2462 := (u2455.2 63 43 (by omega))
                          have tr2463 := (u2455.2 63 45 (by omega))
                          have hP2464 := PI.holdC v2423p (f := (v13 - 1)) (by omega) ((fr2424 86 _ rfl).trans hph2358) (B0.fr (B0.fr hB fr2 rfl (fun _ => rfl)) fr2424 rfl (fun _ => rfl)) (by omega) fr2445 v2444p.1 v2444p.2.1 v2444p.2.2 u2455
                          refine s_aload_n kx_197_274 rfl ?_
                          refine s_callV2 (k := 63) (s1 := 1) (s2 := 0) (as := []) (rest := []) kx_197_275 kp_197_286 (Or.inl rfl) rfl (tk_63 hT) ki_180 kcl_180 rfl rfl (by decide) (m_180 (d := d) hT hI2455) (kV (fun M2466 hI2466 fr2466 v2465p => ?_))
                          have hFm2466 := hFm2455.call fr2466 rfl
                          have tr2467 := (fr2466 63 9 rfl)
                          have tr2468 := (fr2466 63 35 rfl)
                          have tr2469 := (fr2466 63 42 rfl)
                          have tr2470 := (fr2466 63 43 rfl)
                          have tr2471 := (fr2466 63 45 rfl)
                          have tr2472 := rg_63_9 hI2466
                          refine s_aload_n kx_197_278 rfl ?_
                          refine s_iconst (v := 0) kx_197_279 (by decide) ?_
                          refine r_put (k := 63) (f := 46) kx_197_280 kp_197_152 (tk_63 hT) kf_12_46 rfl (by decide) (by decide) hI2466 (ru_63_46 (by omega) (by omega)) (fun M2473 hI2473 u2473 => ?_)
                          have hFm2473 := hFm2466.up u2473 rfl
                          have tr2474 := (u2473.2 63 3 (by omega))
                          have tr2475 := (u2473.2 63 4 (by omega))
                          have tr2476 := (u2473.2 63 5 (by omega))
                          have tr2477 := (u2473.2 63 9 (by omega))
                          have tr2478 := (u2473.2 63 35 (by omega))
                          have tr2479 := (u2473.2 63 42 (by omega))
                          have tr2480 := (u2473.2 63 43 (by omega))
                          have tr2481 := (u2473.2 63 45 (by omega))
                          refine s_iconst (v := 1) kx_197_283 (by decide) ?_
                          have hk2482 : M2473 63 9 = v11 := ((u2473.2 63 9 (by omega)).trans ((fr2466 63 9 rfl).trans ((u2455.2 63 9 (by omega)).trans ((fr2445 63 9 rfl).trans ((fr2424 63 9 rfl).trans v11e)))))
                          exact s_iret kx_197_284 (Or.inr ⟨kq_197, by omega⟩) ⟨_, _, rfl, rfl, hI2473, hFm2473, ⟨by omega, by omega, (LXp.up (show LXp M2466 from v2465p.2) u2473 (by decide)), (by omega), (by omega), (Or.inr (Or.inr ⟨rfl, by omega, Or.inl ⟨u2473.1, PI.to7 (PI.fr (PI.fr hP2464 fr2466 rfl) (Up.fr u2473) rfl) (by omega)⟩⟩))⟩⟩
                        refine s_if_eq (t := 248) kx_197_240 (by decide) (fun hc2434 => ?_) (fun hc2434 => ?_)
                        · have hJ2435 : Fr fS_197_j240 M2424 M2424 := Fr.refl
                          replace v2433p := v2433p.resolve_left (by omega)
                          refine s_aload_n kx_197_248 rfl ?_
                          refine s_bipush (v := 62) kx_197_249 (by decide) ?_
                          refine s_callV2 (k := 63) (s1 := 2) (s2 := 1) (as := [(0, 62)]) (rest := [rf 63]) kx_197_251 kp_197_283 (Or.inl rfl) rfl (tk_63 hT) ki_181 kcl_181 rfl rfl (by decide) (m_181 (d := d + 1) (c := 62) hT hI2424) (kF (fun v2436 v2436p => ?_))
                          refine s_if_eq (t := 262) kx_197_254 (by decide) (fun hc2437 => ?_) (fun hc2437 => ?_)
                          · replace v2436p := v2436p.resolve_left (by omega)
                            refine s_bipush (v := 19) kx_197_262 (by decide) ?_
                            exact cP.wk (lS1 rfl (lS1 rfl lS0)) (jn2440 19 (by omega) (by omega) (by omega))
                          · replace v2436p := v2436p.resolve_right (by omega)
                            refine s_bipush (v := 18) kx_197_257 (by decide) ?_
                            refine s_goto (t := 264) kx_197_259 (by decide) ?_
                            exact cP.wk (lS1 rfl (lS1 rfl lS0)) (jn2440 18 (by omega) (by omega) (by omega))
                        · have hJ2438 : Fr fS_197_j240 M2424 M2424 := Fr.refl
                          replace v2433p := v2433p.resolve_right (by omega)
                          refine s_bipush (v := 17) kx_197_243 (by decide) ?_
                          refine s_goto (t := 264) kx_197_245 (by decide) ?_
                          exact cP.wk (lS1 rfl (lS1 rfl lS0)) (jn2440 17 (by omega) (by omega) (by omega))
                      · replace v2421p := v2421p.resolve_left (by omega)
                        refine s_aload_n kx_197_219 rfl ?_
                        refine s_bipush (v := 61) kx_197_220 (by decide) ?_
                        refine s_callV2 (k := 63) (s1 := 2) (s2 := 0) (as := [(0, 61)]) (rest := []) kx_197_222 kp_197_283 (Or.inl rfl) rfl (tk_63 hT) ki_181 kcl_181 rfl rfl (by decide) (m_181 (d := d + 1) (c := 61) hT hI2) (kF (fun v2483 v2483p => ?_))
                        refine s_if_eq (t := 285) kx_197_225 (by decide) (fun hc2484 => ?_) (fun hc2484 => ?_)
                        · replace v2483p := v2483p.resolve_left (by omega)
                          refine s_iload_n kx_197_285 rfl ?_
                          refine s_if_eq (t := 400) kx_197_286 (by decide) (fun hc2485 => absurd hc2485 (by omega)) (fun hc2485 => ?_)
                          refine s_aload_n kx_197_289 rfl ?_
                          refine s_ldc2_w kx_197_290 kp_197_327 ?_
                          refine s_callV2 (k := 63) (s1 := 3) (s2 := 0) (as := [(1, 6385252)]) (rest := []) kx_197_293 kp_197_361 (Or.inl rfl) rfl (tk_63 hT) ki_182 kcl_182 rfl rfl (by decide) (m_182 (d := d + 1) (w := 6385252) hT hI2) (kF (fun v2486 v2486p => ?_))
                          refine s_if_ne (t := 309) kx_197_296 (by decide) (fun hc2487 => ?_) (fun hc2487 => ?_)
                          · replace v2486p := v2486p.resolve_right (by omega)
                            refine s_aload_n kx_197_309 rfl ?_
                            refine r_getR (k := 63) (f := 38) (k2 := 86) kx_197_310 kp_197_127 (tk_63 hT) kf_12_38 (by decide) (rq_63_38 hI2) ?_
                            refine s_iload_n kx_197_313 rfl ?_
                            refine r_aldK (k := 86) kx_197_314 (tk_86 hT) ⟨by omega, by omega⟩ v16e ?_
                            refine s_if_ne (t := 327) kx_197_315 (by decide) (fun hc2488 => absurd hc2488 (by omega)) (fun hc2488 => ?_)
                            refine s_aload_n kx_197_318 rfl ?_
                            refine s_iconst (v := 1) kx_197_319 (by decide) ?_
                            refine s_aload_n kx_197_320 rfl ?_
                            refine r_getI (k := 63) (f := 4) kx_197_321 kp_197_23 (tk_63 hT) kf_12_4 (fun _ => rfl) (rg_63_4 hI2) (fun v2489 v2489e v2489a v2489b => ?_)
                            have v2489z : M 63 4 = v2489 := ((fr2 63 4 rfl)).symm.trans v2489e
                            refine s_callV2 (k := 63) (s1 := 3) (s2 := 0) (as := [(0, v2489), (0, 1)]) (rest := []) kx_197_324 kp_197_263 (Or.inl rfl) rfl (tk_63 hT) ki_176 kcl_176 rfl rfl (by decide) (m_176 (d := d + 1) (kind := 1) (place := v2489) hT hI2 (by omega)) (kV (fun M2491 hI2491 fr2491 v2490p => ?_))
                            have hFm2491 := hFm2.call fr2491 rfl
                            have tr2492 := (fr2491 63 3 rfl)
                            have tr2493 := (fr2491 63 4 rfl)
                            have tr2494 := (fr2491 63 5 rfl)
                            have tr2495 := (fr2491 63 35 rfl)
                            have tr2496 := (fr2491 63 42 rfl)
                            have tr2497 := (fr2491 63 43 rfl)
                            have tr2498 := (fr2491 63 45 rfl)
                            have tr2499 := rg_63_9 hI2491
                            refine s_aload_n kx_197_327 rfl ?_
                            refine r_getI (k := 63) (f := 9) kx_197_328 kp_197_39 (tk_63 hT) kf_12_9 (fun _ => rfl) (rg_63_9 hI2491) (fun v2500 v2500e v2500a v2500b => ?_)
                            refine s_if_le (t := 336) kx_197_331 (by decide) (fun hc2501 => ?_) (fun hc2501 => ?_)
                            · refine s_aload_n kx_197_336 rfl ?_
                              refine s_ldc2_w kx_197_337 kp_197_327 ?_
                              refine s_callV2 (k := 63) (s1 := 3) (s2 := 0) (as := [(1, 6385252)]) (rest := []) kx_197_340 kp_197_361 (Or.inl rfl) rfl (tk_63 hT) ki_182 kcl_182 rfl rfl (by decide) (m_182 (d := d + 1) (w := 6385252) hT hI2491) (kF (fun v2502 v2502p => ?_))
                              refine s_istore kx_197_343 km_197_4 rfl ?_
                              refine s_aload_n kx_197_345 rfl ?_
                              refine s_iload kx_197_346 rfl ?_
                              have jn2507 : ∀ (y2506 : Int), (1 ≤ y2506) → (y2506 ≤ 2) → ((y2506 = 2 ∧ v2502 ≠ 0) ∨ (y2506 = 1 ∧ v2502 = 0)) → cP k_P xs Ln (d + 2) 197 356 [(0, rf 63), (1, (0, (v13 - 1))), (4, (0, v2502))] [(0, y2506), rf 63] (T, M2491) (qW T M fS_197_m 0 (fun v M1 => 0 ≤ v ∧ v ≤ 1 ∧ (LXp M1 ∧ M 63 4 ≤ M1 63 4 ∧ M 63 9 ≤ M1 63 9 ∧ (GOd M M1 c a v)))) := by
                                intro y2506 a2508 a2509 a2510
                                refine s_callV2 (k := 63) (s1 := 2) (s2 := 0) (as := [(0, y2506)]) (rest := []) kx_197_356 kp_197_370 (Or.inl rfl) rfl (tk_63 hT) ki_191 kcl_191 rfl rfl (by decide) (m_191 (d := d) (least := y2506) hT hI2491 (PI.fr (PI.fr hP fr2 rfl) fr2491 rfl) (by omega) (by omega) (by omega)) (kV (fun M2512 hI2512 fr2512 v2511p => ?_))
                                have hFm2512 := hFm2491.call fr2512 rfl
                                have tr2513 := (fr2512 63 3 rfl)
                                have tr2514 := (fr2512 63 4 rfl)
                                have tr2515 := (fr2512 63 5 rfl)
                                have tr2516 := (fr2512 63 9 rfl)
                                have tr2517 := (fr2512 63 42 rfl)
                                have tr2518 := rg_63_9 hI2512
                                have hd2519 := PI.deep v2511p
                                have hs2520 := PI.small v2511p (rg_63_43 hI2512).2 (by decide)
                                have hs2520a := hs2520.1
                                have hs2520b := hs2520.2.1
                                have hs2520c := rg_63_45 hI2512
                                refine s_aload_n kx_197_359 rfl ?_
                                refine s_iload kx_197_360 rfl ?_
                                have jn2525 : ∀ (y2524 : Int), (20 ≤ y2524) → (y2524 ≤ 21) → ((y2524 = 20 ∧ v2502 ≠ 0) ∨ (y2524 = 21 ∧ v2502 = 0)) → cP k_P xs Ln (d + 2) 197 372 [(0, rf 63), (1, (0, (v13 - 1)))] [(0, y2524), rf 63] (T, M2512) (qW T M fS_197_m 0 (fun v M1 => 0 ≤ v ∧ v ≤ 1 ∧ (LXp M1 ∧ M 63 4 ≤ M1 63 4 ∧ M 63 9 ≤ M1 63 9 ∧ (GOd M M1 c a v)))) := by
                                  intro y2524 a2526 a2527 a2528
                                  refine s_callV2 (k := 63) (s1 := 2) (s2 := 0) (as := [(0, y2524)]) (rest := []) kx_197_372 kp_197_364 (Or.inl rfl) rfl (tk_63 hT) ki_192 kcl_192 rfl rfl (by decide) (m_192 (d := d + 1) (op := y2524) hT hI2512 (by omega) (by omega)) (kV (fun M2530 hI2530 fr2530 v2529p => ?_))
                                  have hFm2530 := hFm2512.call fr2530 rfl
                                  have tr2531 := (fr2530 63 3 rfl)
                                  have tr2532 := (fr2530 63 4 rfl)
                                  have tr2533 := (fr2530 63 5 rfl)
                                  have tr2534 := (fr2530 63 9 rfl)
                                  have tr2535 := (fr2530 63 35 rfl)
                                  have tr2536 := (fr2530 63 42 rfl)
                                  have tr2537 := (fr2530 63 43 rfl)
                                  have tr2538 := rg_63_9 hI2530
                                  have hP2539 := PI.holdL v2511p (B0.fr (B0.fr (B0.fr hB fr2 rfl (fun _ => rfl)) fr2491 rfl (fun _ => rfl)) fr2512 rfl (fun _ => rfl)) (by omega) fr2530 v2529p.1 v2529p.2.1 v2529p.2.2
                                  refine s_aload_n kx_197_375 rfl ?_
                                  refine r_getR (k := 63) (f := 38) (k2 := 86) kx_197_376 kp_197_127 (tk_63 hT) kf_12_38 (by decide) (rq_63_38 hI2530) ?_
                                  refine s_iload_n kx_197_379 rfl ?_
                                  refine s_iconst (v := 0) kx_197_380 (by decide) ?_
                                  refine r_ast (k := 86) kx_197_381 (tk_86 hT) ⟨by omega, by omega⟩ hI2530 (ru_86 (by omega) (by omega)) (fun M2540 hI2540 u2540 => ?_)
                                  have hFm2540 := hFm2530.up u2540 rfl
                                  have tr2541 := (u2540.2 63 3 (by omega))
                                  have tr2542 := (u2540.2 63 4 (by omega))
                                  have tr2543 := (u2540.2 63 5 (by omega))
                                  have tr2544 := (u2540.2 63 9 (by omega))
                                  have tr2545 := (u2540.2 63 35 (by omega))
                                  have tr2546 := (u2540.2 63 42 (by omega))
                                  have tr2547 := (u2540.2 63 43 (by omega))
                                  have tr2548 := (u2540.2 63 45 (by omega))
                                  refine s_aload_n kx_197_382 rfl ?_
                                  refine r_getR (k := 63) (f := 39) (k2 := 87) kx_197_383 kp_197_130 (tk_63 hT) kf_12_39 (by decide) (rq_63_39 hI2540) ?_
                                  refine s_iload_n kx_197_386 rfl ?_
                                  refine s_iconst (v := 1) kx_197_387 (by decide) ?_
                                  refine r_bast (k := 87) kx_197_388 (tk_87 hT) ⟨by omega, by omega⟩ (by omega) hI2540 (ru_87 (by omega) (by omega)) (fun M2549 hI2549 u2549 => ?_)
                                  have hFm2549 := hFm2540.up u2549 rfl
                                  have tr2550 := (u2549.2 63 3 (by omega))
                                  have tr2551 := (u2549.2 63 4 (by omega))
                                  have tr2552 := (u2549.2 63 5 (by omega))
                                  have tr2553 := (u2549.2 63 9 (by omega))
                                  have tr2554 := (u2549.2 63 35 (by omega))
                                  have tr2555 := (u2549.2 63 42 (by omega))
                                  have tr2556 := (u2549.2 63 43 (by omega))
                                  have tr2557 := (u2549.2 63 45 (by omega))
                                  refine s_aload_n kx_197_389 rfl ?_
                                  refine s_callV2 (k := 63) (s1 := 1) (s2 := 0) (as := []) (rest := []) kx_197_390 kp_197_286 (Or.inl rfl) rfl (tk_63 hT) ki_180 kcl_180 rfl rfl (by decide) (m_180 (d := d) hT hI2549) (kV (fun M2559 hI2559 fr2559 v2558p => ?_))
                                  have hFm2559 := hFm2549.call fr2559 rfl
                                  have tr2560 := (fr2559 63 9 rfl)
                                  have tr2561 := (fr2559 63 35 rfl)
                                  have tr2562 := (fr2559 63 42 rfl)
                                  have tr2563 := (fr2559 63 43 rfl)
                                  have tr2564 := (fr2559 63 45 rfl)
                                  have tr2565 := rg_63_9 hI2559
                                  refine s_aload_n kx_197_393 rfl ?_
                                  refine s_iconst (v := 0) kx_197_394 (by decide) ?_
                                  refine r_put (k := 63) (f := 46) kx_197_395 kp_197_152 (tk_63 hT) kf_12_46 rfl (by decide) (by decide) hI2559 (ru_63_46 (by omega) (by omega)) (fun M2566 hI2566 u2566 => ?_)
                                  have hFm2566 := hFm2559.up u2566 rfl
                                  have tr2567 := (u2566.2 63 3 (by omega))
                                  have tr2568 := (u2566.2 63 4 (by omega))
                                  have tr2569 := (u2566.2 63 5 (by omega))
                                  have tr2570 := (u2566.2 63 9 (by omega))
                                  have tr2571 := (u2566.2 63 35 (by omega))
                                  have tr2572 := (u2566.2 63 42 (by omega))
                                  have tr2573 := (u2566.2 63 43 (by omega))
                                  have tr2574 := (u2566.2 63 45 (by omega))
                                  refine s_iconst (v := 1) kx_197_398 (by decide) ?_
                                  have hk2575 : M2566 63 9 = v2500 := ((u2566.2 63 9 (by omega)).trans ((fr2559 63 9 rfl).trans ((u2549.2 63 9 (by omega)).trans ((u2540.2 63 9 (by omega)).trans ((fr2530 63 9 rfl).trans ((fr2512 63 9 rfl).trans v2500e))))))
                                  exact s_iret kx_197_399 (Or.inr ⟨kq_197, by omega⟩) ⟨_, _, rfl, rfl, hI2566, hFm2566, ⟨by omega, by omega, (LXp.up (show LXp M2559 from v2558p.2) u2566 (by decide)), (by omega), (by omega), (Or.inr (Or.inr ⟨rfl, by omega, Or.inl ⟨u2566.1, PI.to7 (PI.fr (PI.fr (PI.begins1 (PI.phase hP2539 (Or.inr (by omega)) (by omega) u2540) (by omega) (by omega) u2549) fr2559 rfl) (Up.fr u2566) rfl) (by omega)⟩⟩))⟩⟩
                                refine s_if_eq (t := 370) kx_197_362 (by decide) (fun hc2521 => ?_) (fun hc2521 => ?_)
                                · have hJ2522 : Fr fS_197_j362 M2512 M2512 := Fr.refl
                                  refine s_bipush (v := 21) kx_197_370 (by decide) ?_
                                  exact cP.wk (lS1 rfl (lS1 rfl lS0)) (jn2525 21 (by omega) (by omega) (by omega))
                                · have hJ2523 : Fr fS_197_j362 M2512 M2512 := Fr.refl
                                  refine s_bipush (v := 20) kx_197_365 (by decide) ?_
                                  refine s_goto (t := 372) kx_197_367 (by decide) ?_
                                  exact cP.wk (lS1 rfl (lS1 rfl lS0)) (jn2525 20 (by omega) (by omega) (by omega))
                              refine s_if_eq (t := 355) kx_197_348 (by decide) (fun hc2503 => ?_) (fun hc2503 => ?_)
                              · have hJ2504 : Fr fS_197_j348 M2491 M2491 := Fr.refl
                                replace v2502p := v2502p.resolve_left (by omega)
                                refine s_iconst (v := 1) kx_197_355 (by decide) ?_
                                exact cP.wk (lS1 rfl (lS1 rfl (lS1 rfl lS0))) (jn2507 1 (by omega) (by omega) (by omega))
                              · have hJ2505 : Fr fS_197_j348 M2491 M2491 := Fr.refl
                                replace v2502p := v2502p.resolve_right (by omega)
                                refine s_iconst (v := 2) kx_197_351 (by decide) ?_
                                refine s_goto (t := 356) kx_197_352 (by decide) ?_
                                exact cP.wk (lS1 rfl (lS1 rfl (lS1 rfl lS0))) (jn2507 2 (by omega) (by omega) (by omega))
                            · refine s_iconst (v := 0) kx_197_334 (by decide) ?_
                              have hk2576 : M2491 63 4 = v2489 := ((fr2491 63 4 rfl).trans v2489e)
                              have hk2577 : M2491 63 9 = v2500 := v2500e
                              exact s_iret kx_197_335 (Or.inr ⟨kq_197, by omega⟩) ⟨_, _, rfl, rfl, hI2491, hFm2491, ⟨by omega, by omega, (LXp.fr (LXp.fr hX fr2 rfl) fr2491 rfl), (by omega), (by omega), (Or.inl (by omega))⟩⟩
                          · replace v2486p := v2486p.resolve_left (by omega)
                            refine s_aload_n kx_197_299 rfl ?_
                            refine s_ldc2_w kx_197_300 kp_197_325 ?_
                            refine s_callV2 (k := 63) (s1 := 3) (s2 := 0) (as := [(1, 28530)]) (rest := []) kx_197_303 kp_197_361 (Or.inl rfl) rfl (tk_63 hT) ki_182 kcl_182 rfl rfl (by decide) (m_182 (d := d + 1) (w := 28530) hT hI2) (kF (fun v2578 v2578p => ?_))
                            refine s_if_eq (t := 400) kx_197_306 (by decide) (fun hc2579 => ?_) (fun hc2579 => ?_)
                            · replace v2578p := v2578p.resolve_left (by omega)
                              refine s_iload_n kx_197_400 rfl ?_
                              refine s_if_eq (t := 422) kx_197_401 (by decide) (fun hc2580 => absurd hc2580 (by omega)) (fun hc2580 => ?_)
                              refine s_aload_n kx_197_404 rfl ?_
                              refine r_getR (k := 63) (f := 38) (k2 := 86) kx_197_405 kp_197_127 (tk_63 hT) kf_12_38 (by decide) (rq_63_38 hI2) ?_
                              refine s_iload_n kx_197_408 rfl ?_
                              refine r_aldK (k := 86) kx_197_409 (tk_86 hT) ⟨by omega, by omega⟩ v16e ?_
                              refine s_if_ne (t := 422) kx_197_410 (by decide) (fun hc2581 => absurd hc2581 (by omega)) (fun hc2581 => ?_)
                              refine s_aload_n kx_197_413 rfl ?_
                              refine s_iconst (v := 1) kx_197_414 (by decide) ?_
                              refine s_aload_n kx_197_415 rfl ?_
                              refine r_getI (k := 63) (f := 4) kx_197_416 kp_197_23 (tk_63 hT) kf_12_4 (fun _ => rfl) (rg_63_4 hI2) (fun v2582 v2582e v2582a v2582b => ?_)
                              have v2582z : M 63 4 = v2582 := ((fr2 63 4 rfl)).symm.trans v2582e
                              refine s_callV2 (k := 63) (s1 := 3) (s2 := 0) (as := [(0, v2582), (0, 1)]) (rest := []) kx_197_419 kp_197_263 (Or.inl rfl) rfl (tk_63 hT) ki_176 kcl_176 rfl rfl (by decide) (m_176 (d := d + 1) (kind := 1) (place := v2582) hT hI2 (by omega)) (kV (fun M2584 hI2584 fr2584 v2583p => ?_))
                              have hFm2584 := hFm2.call fr2584 rfl
                              have tr2585 := (fr2584 63 3 rfl)
                              have tr2586 := (fr2584 63 4 rfl)
                              have tr2587 := (fr2584 63 5 rfl)
                              have tr2588 := (fr2584 63 35 rfl)
                              have tr2589 := (fr2584 63 42 rfl)
                              have tr2590 := (fr2584 63 43 rfl)
                              have tr2591 := (fr2584 63 45 rfl)
                              have tr2592 := rg_63_9 hI2584
                              refine s_iload_n kx_197_422 rfl ?_
                              refine s_iconst (v := 2) kx_197_423 (by decide) ?_
                              refine s_icmp_ge (t := 441) kx_197_424 (by decide) (fun hc2593 => ?_) (fun hc2593 => ?_)
                              · refine s_iload_n kx_197_441 rfl ?_
                                refine s_iconst (v := 3) kx_197_442 (by decide) ?_
                                refine s_icmp_eq (t := 452) kx_197_443 (by decide) (fun hc2594 => ?_) (fun hc2594 => ?_)
                                · refine s_aload_n kx_197_452 rfl ?_
                                  refine s_bipush (v := 44) kx_197_453 (by decide) ?_
                                  refine s_callV2 (k := 63) (s1 := 2) (s2 := 0) (as := [(0, 44)]) (rest := []) kx_197_455 kp_197_283 (Or.inl rfl) rfl (tk_63 hT) ki_181 kcl_181 rfl rfl (by decide) (m_181 (d := d + 1) (c := 44) hT hI2584) (kF (fun v2595 v2595p => ?_))
                                  refine s_if_ne (t := 470) kx_197_458 (by decide) (fun hc2596 => ?_) (fun hc2596 => ?_)
                                  · replace v2595p := v2595p.resolve_right (by omega)
                                    refine s_aload_n kx_197_470 rfl ?_
                                    refine r_getI (k := 63) (f := 9) kx_197_471 kp_197_39 (tk_63 hT) kf_12_9 (fun _ => rfl) (rg_63_9 hI2584) (fun v2597 v2597e v2597a v2597b => ?_)
                                    refine s_if_le (t := 479) kx_197_474 (by decide) (fun hc2598 => ?_) (fun hc2598 => ?_)
                                    · refine s_aload_n kx_197_479 rfl ?_
                                      refine s_iconst (v := 1) kx_197_480 (by decide) ?_
                                      refine s_callV2 (k := 63) (s1 := 2) (s2 := 0) (as := [(0, 1)]) (rest := []) kx_197_481 kp_197_370 (Or.inl rfl) rfl (tk_63 hT) ki_191 kcl_191 rfl rfl (by decide) (m_191 (d := d) (least := 1) hT hI2584 (PI.fr (PI.fr hP fr2 rfl) fr2584 rfl) (by omega) (by omega) (by omega)) (kV (fun M2600 hI2600 fr2600 v2599p => ?_))
                                      have hFm2600 := hFm2584.call fr2600 rfl
                                      have tr2601 := (fr2600 63 3 rfl)
                                      have tr2602 := (fr2600 63 4 rfl)
                                      have tr2603 := (fr2600 63 5 rfl)
                                      have tr2604 := (fr2600 63 9 rfl)
                                      have tr2605 := (fr2600 63 42 rfl)
                                      have tr2606 := rg_63_9 hI2600
                                      have hd2607 := PI.deep v2599p
                                      have hs2608 := PI.small v2599p (rg_63_43 hI2600).2 (by decide)
                                      have hs2608a := hs2608.1
                                      have hs2608b := hs2608.2.1
                                      have hs2608c := rg_63_45 hI2600
                                      have hk852609 : M2600 85 ((v13 - 1)).toNat = v14 := ((fr2600 85 _ rfl).trans ((fr2584 85 _ rfl).trans v14e))
                                      refine s_aload_n kx_197_484 rfl ?_
                                      refine r_getR (k := 63) (f := 37) (k2 := 85) kx_197_485 kp_197_124 (tk_63 hT) kf_12_37 (by decide) (rq_63_37 hI2600) ?_
                                      refine s_iload_n kx_197_488 rfl ?_
                                      refine s_iload_n kx_197_489 rfl ?_
                                      refine s_iconst (v := 3) kx_197_490 (by decide) ?_
                                      refine s_icmp_ne (t := 498) kx_197_491 (by decide) (fun hc2610 => absurd hc2610 (by omega)) (fun hc2610 => ?_)
                                      refine s_iconst (v := 4) kx_197_494 (by decide) ?_
                                      refine s_goto (t := 499) kx_197_495 (by decide) ?_
                                      refine r_ast (k := 85) kx_197_499 (tk_85 hT) ⟨by omega, by omega⟩ hI2600 (ru_85 (by omega) (by omega)) (fun M2611 hI2611 u2611 => ?_)
                                      have hFm2611 := hFm2600.up u2611 rfl
                                      have tr2612 := (u2611.2 63 3 (by omega))
                                      have tr2613 := (u2611.2 63 4 (by omega))
                                      have tr2614 := (u2611.2 63 5 (by omega))
                                      have tr2615 := (u2611.2 63 9 (by omega))
                                      have tr2616 := (u2611.2 63 35 (by omega))
                                      have tr2617 := (u2611.2 63 42 (by omega))
                                      have tr2618 := (u2611.2 63 43 (by omega))
                                      have tr2619 := (u2611.2 63 45 (by omega))
                                      refine s_aload_n kx_197_500 rfl ?_
                                      refine r_getR (k := 63) (f := 38) (k2 := 86) kx_197_501 kp_197_127 (tk_63 hT) kf_12_38 (by decide) (rq_63_38 hI2611) ?_
                                      refine s_iload_n kx_197_504 rfl ?_
                                      refine s_iconst (v := 0) kx_197_505 (by decide) ?_
                                      refine r_ast (k := 86) kx_197_506 (tk_86 hT) ⟨by omega, by omega⟩ hI2611 (ru_86 (by omega) (by omega)) (fun M2620 hI2620 u2620 => ?_)
                                      have hFm2620 := hFm2611.up u2620 rfl
                                      have tr2621 := (u2620.2 63 3 (by omega))
                                      have tr2622 := (u2620.2 63 4 (by omega))
                                      have tr2623 := (u2620.2 63 5 (by omega))
                                      have tr2624 := (u2620.2 63 9 (by omega))
                                      have tr2625 := (u2620.2 63 35 (by omega))
                                      have tr2626 := (u2620.2 63 42 (by omega))
                                      have tr2627 := (u2620.2 63 43 (by omega))
                                      have tr2628 := (u2620.2 63 45 (by omega))
                                      refine s_aload_n kx_197_507 rfl ?_
                                      refine s_callV2 (k := 63) (s1 := 1) (s2 := 0) (as := []) (rest := []) kx_197_508 kp_197_286 (Or.inl rfl) rfl (tk_63 hT) ki_180 kcl_180 rfl rfl (by decide) (m_180 (d := d) hT hI2620) (kV (fun M2630 hI2630 fr2630 v2629p => ?_))
                                      have hFm2630 := hFm2620.call fr2630 rfl
                                      have tr2631 := (fr2630 63 9 rfl)
                                      have tr2632 := (fr2630 63 35 rfl)
                                      have tr2633 := (fr2630 63 42 rfl)
                                      have tr2634 := (fr2630 63 43 rfl)
                                      have tr2635 := (fr2630 63 45 rfl)
                                      have tr2636 := rg_63_9 hI2630
                                      refine s_aload_n kx_197_511 rfl ?_
                                      refine s_iconst (v := 0) kx_197_512 (by decide) ?_
                                      refine r_put (k := 63) (f := 46) kx_197_513 kp_197_152 (tk_63 hT) kf_12_46 rfl (by decide) (by decide) hI2630 (ru_63_46 (by omega) (by omega)) (fun M2637 hI2637 u2637 => ?_)
                                      have hFm2637 := hFm2630.up u2637 rfl
                                      have tr2638 := (u2637.2 63 3 (by omega))
                                      have tr2639 := (u2637.2 63 4 (by omega))
                                      have tr2640 := (u2637.2 63 5 (by omega))
                                      have tr2641 := (u2637.2 63 9 (by omega))
                                      have tr2642 := (u2637.2 63 35 (by omega))
                                      have tr2643 := (u2637.2 63 42 (by omega))
                                      have tr2644 := (u2637.2 63 43 (by omega))
                                      have tr2645 := (u2637.2 63 45 (by omega))
                                      refine s_iconst (v := 1) kx_197_516 (by decide) ?_
                                      have hk2646 : M2637 63 9 = v2597 := ((u2637.2 63 9 (by omega)).trans ((fr2630 63 9 rfl).trans ((u2620.2 63 9 (by omega)).trans ((u2611.2 63 9 (by omega)).trans ((fr2600 63 9 rfl).trans v2597e)))))
                                      exact s_iret kx_197_517 (Or.inr ⟨kq_197, by omega⟩) ⟨_, _, rfl, rfl, hI2637, hFm2637, ⟨by omega, by omega, (LXp.up (show LXp M2630 from v2629p.2) u2637 (by decide)), (by omega), (by omega), (Or.inr (Or.inr ⟨rfl, by omega, Or.inl ⟨u2637.1, PI.to7 (PI.fr (PI.fr (PI.phase (PI.comma v2599p (by omega) (by omega) u2611) (Or.inr (by omega)) (by omega) u2620) fr2630 rfl) (Up.fr u2637) rfl) (by omega)⟩⟩))⟩⟩
                                    · refine s_iconst (v := 0) kx_197_477 (by decide) ?_
                                      have hk2647 : M2584 63 4 = v2582 := ((fr2584 63 4 rfl).trans v2582e)
                                      have hk2648 : M2584 63 9 = v2597 := v2597e
                                      exact s_iret kx_197_478 (Or.inr ⟨kq_197, by omega⟩) ⟨_, _, rfl, rfl, hI2584, hFm2584, ⟨by omega, by omega, (LXp.fr (LXp.fr hX fr2 rfl) fr2584 rfl), (by omega), (by omega), (Or.inl (by omega))⟩⟩
                                  · replace v2595p := v2595p.resolve_left (by omega)
                                    refine s_aload_n kx_197_461 rfl ?_
                                    refine s_iconst (v := 1) kx_197_462 (by decide) ?_
                                    refine s_aload_n kx_197_463 rfl ?_
                                    refine r_getK (k := 63) (f := 4) kx_197_464 kp_197_23 (tk_63 hT) kf_12_4 (fun _ => rfl) ((fr2584 63 4 rfl).trans v2582e) ?_
                                    refine s_callV2 (k := 63) (s1 := 3) (s2 := 0) (as := [(0, v2582), (0, 1)]) (rest := []) kx_197_467 kp_197_263 (Or.inl rfl) rfl (tk_63 hT) ki_176 kcl_176 rfl rfl (by decide) (m_176 (d := d + 1) (kind := 1) (place := v2582) hT hI2584 (by omega)) (kV (fun M2650 hI2650 fr2650 v2649p => ?_))
                                    have hFm2650 := hFm2584.call fr2650 rfl
                                    have tr2651 := (fr2650 63 3 rfl)
                                    have tr2652 := (fr2650 63 4 rfl)
                                    have tr2653 := (fr2650 63 5 rfl)
                                    have tr2654 := (fr2650 63 35 rfl)
                                    have tr2655 := (fr2650 63 42 rfl)
                                    have tr2656 := (fr2650 63 43 rfl)
                                    have tr2657 := (fr2650 63 45 rfl)
                                    have tr2658 := rg_63_9 hI2650
                                    refine s_aload_n kx_197_470 rfl ?_
                                    refine r_getI (k := 63) (f := 9) kx_197_471 kp_197_39 (tk_63 hT) kf_12_9 (fun _ => rfl) (rg_63_9 hI2650) (fun v2659 v2659e v2659a v2659b => ?_)
                                    refine s_if_le (t := 479) kx_197_474 (by decide) (fun hc2660 => ?_) (fun hc2660 => ?_)
                                    · refine s_aload_n kx_197_479 rfl ?_
                                      refine s_iconst (v := 1) kx_197_480 (by decide) ?_
                                      refine s_callV2 (k := 63) (s1 := 2) (s2 := 0) (as := [(0, 1)]) (rest := []) kx_197_481 kp_197_370 (Or.inl rfl) rfl (tk_63 hT) ki_191 kcl_191 rfl rfl (by decide) (m_191 (d := d) (least := 1) hT hI2650 (PI.fr (PI.fr (PI.fr hP fr2 rfl) fr2584 rfl) fr2650 rfl) (by omega) (by omega) (by omega)) (kV (fun M2662 hI2662 fr2662 v2661p => ?_))
                                      have hFm2662 := hFm2650.call fr2662 rfl
                                      have tr2663 := (fr2662 63 3 rfl)
                                      have tr2664 := (fr2662 63 4 rfl)
                                      have tr2665 := (fr2662 63 5 rfl)
                                      have tr2666 := (fr2662 63 9 rfl)
                                      have tr2667 := (fr2662 63 42 rfl)
                                      have tr2668 := rg_63_9 hI2662
                                      have hd2669 := PI.deep v2661p
                                      have hs2670 := PI.small v2661p (rg_63_43 hI2662).2 (by decide)
                                      have hs2670a := hs2670.1
                                      have hs2670b := hs2670.2.1
                                      have hs2670c := rg_63_45 hI2662
                                      have hk852671 : M2662 85 ((v13 - 1)).toNat = v14 := ((fr2662 85 _ rfl).trans ((fr2650 85 _ rfl).trans ((fr2584 85 _ rfl).trans v14e)))
                                      refine s_aload_n kx_197_484 rfl ?_
                                      refine r_getR (k := 63) (f := 37) (k2 := 85) kx_197_485 kp_197_124 (tk_63 hT) kf_12_37 (by decide) (rq_63_37 hI2662) ?_
                                      refine s_iload_n kx_197_488 rfl ?_
                                      refine s_iload_n kx_197_489 rfl ?_
                                      refine s_iconst (v := 3) kx_197_490 (by decide) ?_
                                      refine s_icmp_ne (t := 498) kx_197_491 (by decide) (fun hc2672 => absurd hc2672 (by omega)) (fun hc2672 => ?_)
                                      refine s_iconst (v := 4) kx_197_494 (by decide) ?_
                                      refine s_goto (t := 499) kx_197_495 (by decide) ?_
                                      refine r_ast (k := 85) kx_197_499 (tk_85 hT) ⟨by omega, by omega⟩ hI2662 (ru_85 (by omega) (by omega)) (fun M2673 hI2673 u2673 => ?_)
                                      have hFm2673 := hFm2662.up u2673 rfl
                                      have tr2674 := (u2673.2 63 3 (by omega))
                                      have tr2675 := (u2673.2 63 4 (by omega))
                                      have tr2676 := (u2673.2 63 5 (by omega))
                                      have tr2677 := (u2673.2 63 9 (by omega))
                                      have tr2678 := (u2673.2 63 35 (by omega))
                                      have tr2679 := (u2673.2 63 42 (by omega))
                                      have tr2680 := (u2673.2 63 43 (by omega))
                                      have tr2681 := (u2673.2 63 45 (by omega))
                                      refine s_aload_n kx_197_500 rfl ?_
                                      refine r_getR (k := 63) (f := 38) (k2 := 86) kx_197_501 kp_197_127 (tk_63 hT) kf_12_38 (by decide) (rq_63_38 hI2673) ?_
                                      refine s_iload_n kx_197_504 rfl ?_
                                      refine s_iconst (v := 0) kx_197_505 (by decide) ?_
                                      refine r_ast (k := 86) kx_197_506 (tk_86 hT) ⟨by omega, by omega⟩ hI2673 (ru_86 (by omega) (by omega)) (fun M2682 hI2682 u2682 => ?_)
                                      have hFm2682 := hFm2673.up u2682 rfl
                                      have tr2683 := (u2682.2 63 3 (by omega))
                                      have tr2684 := (u2682.2 63 4 (by omega))
                                      have tr2685 := (u2682.2 63 5 (by omega))
                                      have tr2686 := (u2682.2 63 9 (by omega))
                                      have tr2687 := (u2682.2 63 35 (by omega))
                                      have tr2688 := (u2682.2 63 42 (by omega))
                                      have tr2689 := (u2682.2 63 43 (by omega))
                                      have tr2690 := (u2682.2 63 45 (by omega))
                                      refine s_aload_n kx_197_507 rfl ?_
                                      refine s_callV2 (k := 63) (s1 := 1) (s2 := 0) (as := []) (rest := []) kx_197_508 kp_197_286 (Or.inl rfl) rfl (tk_63 hT) ki_180 kcl_180 rfl rfl (by decide) (m_180 (d := d) hT hI2682) (kV (fun M2692 hI2692 fr2692 v2691p => ?_))
                                      have hFm2692 := hFm2682.call fr2692 rfl
                                      have tr2693 := (fr2692 63 9 rfl)
                                      have tr2694 := (fr2692 63 35 rfl)
                                      have tr2695 := (fr2692 63 42 rfl)
                                      have tr2696 := (fr2692 63 43 rfl)
                                      have tr2697 := (fr2692 63 45 rfl)
                                      have tr2698 := rg_63_9 hI2692
                                      refine s_aload_n kx_197_511 rfl ?_
                                      refine s_iconst (v := 0) kx_197_512 (by decide) ?_
                                      refine r_put (k := 63) (f := 46) kx_197_513 kp_197_152 (tk_63 hT) kf_12_46 rfl (by decide) (by decide) hI2692 (ru_63_46 (by omega) (by omega)) (fun M2699 hI2699 u2699 => ?_)
                                      have hFm2699 := hFm2692.up u2699 rfl
                                      have tr2700 := (u2699.2 63 3 (by omega))
                                      have tr2701 := (u2699.2 63 4 (by omega))
                                      have tr2702 := (u2699.2 63 5 (by omega))
                                      have tr2703 := (u2699.2 63 9 (by omega))
                                      have tr2704 := (u2699.2 63 35 (by omega))
                                      have tr2705 := (u2699.2 63 42 (by omega))
                                      have tr2706 := (u2699.2 63 43 (by omega))
                                      have tr2707 := (u2699.2 63 45 (by omega))
                                      refine s_iconst (v := 1) kx_197_516 (by decide) ?_
                                      have hk2708 : M2699 63 9 = v2659 := ((u2699.2 63 9 (by omega)).trans ((fr2692 63 9 rfl).trans ((u2682.2 63 9 (by omega)).trans ((u2673.2 63 9 (by omega)).trans ((fr2662 63 9 rfl).trans v2659e)))))
                                      exact s_iret kx_197_517 (Or.inr ⟨kq_197, by omega⟩) ⟨_, _, rfl, rfl, hI2699, hFm2699, ⟨by omega, by omega, (LXp.up (show LXp M2692 from v2691p.2) u2699 (by decide)), (by omega), (by omega), (Or.inr (Or.inr ⟨rfl, by omega, Or.inl ⟨u2699.1, PI.to7 (PI.fr (PI.fr (PI.phase (PI.comma v2661p (by omega) (by omega) u2673) (Or.inr (by omega)) (by omega) u2682) fr2692 rfl) (Up.fr u2699) rfl) (by omega)⟩⟩))⟩⟩
                                    · refine s_iconst (v := 0) kx_197_477 (by decide) ?_
                                      have hk2709 : M2650 63 4 = v2582 := ((fr2650 63 4 rfl).trans ((fr2584 63 4 rfl).trans v2582e))
                                      have hk2710 : M2650 63 9 = v2659 := v2659e
                                      exact s_iret kx_197_478 (Or.inr ⟨kq_197, by omega⟩) ⟨_, _, rfl, rfl, hI2650, hFm2650, ⟨by omega, by omega, (LXp.fr (LXp.fr (LXp.fr hX fr2 rfl) fr2584 rfl) fr2650 rfl), (by omega), (by omega), (Or.inl (by omega))⟩⟩
                                · refine s_iload_n kx_197_446 rfl ?_
                                  refine s_bipush (v := 6) kx_197_447 (by decide) ?_
                                  refine s_icmp_ne (t := 518) kx_197_449 (by decide) (fun hc2711 => ?_) (fun hc2711 => ?_)
                                  · refine s_aload_n kx_197_518 rfl ?_
                                    refine s_iload_n kx_197_519 rfl ?_
                                    refine s_iconst (v := 5) kx_197_520 (by decide) ?_
                                    have jn2716 : ∀ (y2715 : Int), (41 ≤ y2715) → (y2715 ≤ 93) → cP k_P xs Ln (d + 2) 197 531 [(0, rf 63), (1, (0, (v13 - 1))), (2, (0, v14))] [(0, y2715), rf 63] (T, M2584) (qW T M fS_197_m 0 (fun v M1 => 0 ≤ v ∧ v ≤ 1 ∧ (LXp M1 ∧ M 63 4 ≤ M1 63 4 ∧ M 63 9 ≤ M1 63 9 ∧ (GOd M M1 c a v)))) := by
                                      intro y2715 a2717 a2718
                                      refine s_callV2 (k := 63) (s1 := 2) (s2 := 0) (as := [(0, y2715)]) (rest := []) kx_197_531 kp_197_283 (Or.inl rfl) rfl (tk_63 hT) ki_181 kcl_181 rfl rfl (by decide) (m_181 (d := d + 1) (c := y2715) hT hI2584) (kF (fun v2719 v2719p => ?_))
                                      refine s_if_ne (t := 546) kx_197_534 (by decide) (fun hc2720 => ?_) (fun hc2720 => ?_)
                                      · replace v2719p := v2719p.resolve_right (by omega)
                                        refine s_aload_n kx_197_546 rfl ?_
                                        refine r_getI (k := 63) (f := 9) kx_197_547 kp_197_39 (tk_63 hT) kf_12_9 (fun _ => rfl) (rg_63_9 hI2584) (fun v2721 v2721e v2721a v2721b => ?_)
                                        refine s_if_le (t := 555) kx_197_550 (by decide) (fun hc2722 => ?_) (fun hc2722 => ?_)
                                        · refine s_aload_n kx_197_555 rfl ?_
                                          refine s_iconst (v := 1) kx_197_556 (by decide) ?_
                                          refine s_callV2 (k := 63) (s1 := 2) (s2 := 0) (as := [(0, 1)]) (rest := []) kx_197_557 kp_197_370 (Or.inl rfl) rfl (tk_63 hT) ki_191 kcl_191 rfl rfl (by decide) (m_191 (d := d) (least := 1) hT hI2584 (PI.fr (PI.fr hP fr2 rfl) fr2584 rfl) (by omega) (by omega) (by omega)) (kV (fun M2724 hI2724 fr2724 v2723p => ?_))
                                          have hFm2724 := hFm2584.call fr2724 rfl
                                          have tr2725 := (fr2724 63 3 rfl)
                                          have tr2726 := (fr2724 63 4 rfl)
                                          have tr2727 := (fr2724 63 5 rfl)
                                          have tr2728 := (fr2724 63 9 rfl)
                                          have tr2729 := (fr2724 63 42 rfl)
                                          have tr2730 := rg_63_9 hI2724
                                          have hd2731 := PI.deep v2723p
                                          have hs2732 := PI.small v2723p (rg_63_43 hI2724).2 (by decide)
                                          have hs2732a := hs2732.1
                                          have hs2732b := hs2732.2.1
                                          have hs2732c := rg_63_45 hI2724
                                          refine s_aload_n kx_197_560 rfl ?_
                                          refine s_dup kx_197_561 rfl ?_
                                          refine r_getK (k := 63) (f := 42) kx_197_562 kp_197_140 (tk_63 hT) kf_12_42 (fun _ => rfl) ((fr2724 63 42 rfl).trans ((fr2584 63 42 rfl).trans v13e)) ?_
                                          refine s_iconst (v := 1) kx_197_565 (by decide) ?_
                                          refine r_sub kx_197_566 ⟨by omega, by omega⟩ ?_
                                          refine r_put (k := 63) (f := 42) kx_197_567 kp_197_140 (tk_63 hT) kf_12_42 rfl (by decide) (by decide) hI2724 (ru_63_42 (by omega) (by omega)) (fun M2733 hI2733 u2733 => ?_)
                                          have hFm2733 := hFm2724.up u2733 rfl
                                          have tr2734 := (u2733.2 63 3 (by omega))
                                          have tr2735 := (u2733.2 63 4 (by omega))
                                          have tr2736 := (u2733.2 63 5 (by omega))
                                          have tr2737 := (u2733.2 63 9 (by omega))
                                          have tr2738 := (u2733.2 63 35 (by omega))
                                          have tr2739 := u2733.1
                                          have tr2740 := (u2733.2 63 43 (by omega))
                                          have tr2741 := (u2733.2 63 45 (by omega))
                                          have hcl2742 := PI.close v2723p (by decide) (f := (v13 - 1)) (by omega) ((fr2724 85 _ rfl).trans ((fr2584 85 _ rfl).trans v14e)) (by omega) u2733 (by omega)
                                          have hcl2742d := hcl2742.2.2.1
                                          have hcl2742q := PI.deep hcl2742.1
                                          refine s_aload_n kx_197_570 rfl ?_
                                          refine s_dup kx_197_571 rfl ?_
                                          refine r_getI (k := 63) (f := 43) kx_197_572 kp_197_143 (tk_63 hT) kf_12_43 (fun _ => rfl) (rg_63_43 hI2733) (fun v2743 v2743e v2743a v2743b => ?_)
                                          refine s_iconst (v := 1) kx_197_575 (by decide) ?_
                                          refine r_sub kx_197_576 ⟨by omega, by omega⟩ ?_
                                          have hcl2742e := PI.e_le hcl2742.1
                                          refine r_put (k := 63) (f := 43) kx_197_577 kp_197_143 (tk_63 hT) kf_12_43 rfl (by decide) (by decide) hI2733 (ru_63_43 (by omega) (by omega)) (fun M2744 hI2744 u2744 => ?_)
                                          have hFm2744 := hFm2733.up u2744 rfl
                                          have tr2745 := (u2744.2 63 3 (by omega))
                                          have tr2746 := (u2744.2 63 4 (by omega))
                                          have tr2747 := (u2744.2 63 5 (by omega))
                                          have tr2748 := (u2744.2 63 9 (by omega))
                                          have tr2749 := (u2744.2 63 35 (by omega))
                                          have tr2750 := (u2744.2 63 42 (by omega))
                                          have tr2751 := u2744.1
                                          have tr2752 := (u2744.2 63 45 (by omega))
                                          have hP2753 := (PI.opn (e' := 0) hcl2742.1 u2744 (by omega))
                                          refine s_iload_n kx_197_580 rfl ?_
                                          refine s_iconst (v := 4) kx_197_581 (by decide) ?_
                                          refine s_icmp_ne (t := 596) kx_197_582 (by decide) (fun hc2754 => ?_) (fun hc2754 => ?_)
                                          · have hP2755 := PI.comp0 hP2753 (by omega)
                                            refine s_iload_n kx_197_596 rfl ?_
                                            refine s_iconst (v := 5) kx_197_597 (by decide) ?_
                                            refine s_icmp_ne (t := 613) kx_197_598 (by decide) (fun hc2756 => ?_) (fun hc2756 => ?_)
                                            · refine s_aload_n kx_197_613 rfl ?_
                                              refine s_callV2 (k := 63) (s1 := 1) (s2 := 0) (as := []) (rest := []) kx_197_614 kp_197_286 (Or.inl rfl) rfl (tk_63 hT) ki_180 kcl_180 rfl rfl (by decide) (m_180 (d := d) hT hI2744) (kV (fun M2758 hI2758 fr2758 v2757p => ?_))
                                              have hFm2758 := hFm2744.call fr2758 rfl
                                              have tr2759 := (fr2758 63 9 rfl)
                                              have tr2760 := (fr2758 63 35 rfl)
                                              have tr2761 := (fr2758 63 42 rfl)
                                              have tr2762 := (fr2758 63 43 rfl)
                                              have tr2763 := (fr2758 63 45 rfl)
                                              have tr2764 := rg_63_9 hI2758
                                              refine s_iconst (v := 1) kx_197_617 (by decide) ?_
                                              have hk2765 : M2758 63 9 = v2721 := ((fr2758 63 9 rfl).trans ((u2744.2 63 9 (by omega)).trans ((u2733.2 63 9 (by omega)).trans ((fr2724 63 9 rfl).trans v2721e))))
                                              exact s_iret kx_197_618 (Or.inr ⟨kq_197, by omega⟩) ⟨_, _, rfl, rfl, hI2758, hFm2758, ⟨by omega, by omega, (show LXp M2758 from v2757p.2), (by omega), (by omega), (Or.inr (Or.inr ⟨rfl, by omega, Or.inr ⟨((fr2758 63 46 rfl).trans ((u2744.2 63 46 (by omega)).trans ((u2733.2 63 46 (by omega)).trans ((fr2724 63 46 rfl).trans ((fr2584 63 46 rfl).trans (fr2 63 46 rfl)))))), (B0.fr (B0.up (show B0 M2733 from hcl2742.2.1) u2744 (by decide)) fr2758 rfl (fun _ => rfl)), PI.to7 (PI.fr hP2755 fr2758 rfl) (by omega)⟩⟩))⟩⟩
                                            · refine s_aload_n kx_197_601 rfl ?_
                                              refine r_getR (k := 63) (f := 38) (k2 := 86) kx_197_602 kp_197_127 (tk_63 hT) kf_12_38 (by decide) (rq_63_38 hI2744) ?_
                                              refine s_aload_n kx_197_605 rfl ?_
                                              refine r_getK (k := 63) (f := 42) kx_197_606 kp_197_140 (tk_63 hT) kf_12_42 (fun _ => rfl) ((u2744.2 63 42 (by omega)).trans u2733.1) ?_
                                              refine s_iconst (v := 1) kx_197_609 (by decide) ?_
                                              refine r_sub kx_197_610 ⟨by omega, by omega⟩ ?_
                                              refine s_iconst (v := 2) kx_197_611 (by decide) ?_
                                              refine r_ast (k := 86) kx_197_612 (tk_86 hT) ⟨by omega, by omega⟩ hI2744 (ru_86 (by omega) (by omega)) (fun M2766 hI2766 u2766 => ?_)
                                              have hFm2766 := hFm2744.up u2766 rfl
                                              have tr2767 := (u2766.2 63 3 (by omega))
                                              have tr2768 := (u2766.2 63 4 (by omega))
                                              have tr2769 := (u2766.2 63 5 (by omega))
                                              have tr2770 := (u2766.2 63 9 (by omega))
                                              have tr2771 := (u2766.2 63 35 (by omega))
                                              have tr2772 := (u2766.2 63 42 (by omega))
                                              have tr2773 := (u2766.2 63 43 (by omega))
                                              have tr2774 := (u2766.2 63 45 (by omega))
                                              refine s_aload_n kx_197_613 rfl ?_
                                              refine s_callV2 (k := 63) (s1 := 1) (s2 := 0) (as := []) (rest := []) kx_197_614 kp_197_286 (Or.inl rfl) rfl (tk_63 hT) ki_180 kcl_180 rfl rfl (by decide) (m_180 (d := d) hT hI2766) (kV (fun M2776 hI2776 fr2776 v2775p => ?_))
                                              have hFm2776 := hFm2766.call fr2776 rfl
                                              have tr2777 := (fr2776 63 9 rfl)
                                              have tr2778 := (fr2776 63 35 rfl)
                                              have tr2779 := (fr2776 63 42 rfl)
                                              have tr2780 := (fr2776 63 43 rfl)
                                              have tr2781 := (fr2776 63 45 rfl)
                                              have tr2782 := rg_63_9 hI2776
                                              refine s_iconst (v := 1) kx_197_617 (by decide) ?_
                                              have hk2783 : M2776 63 9 = v2721 := ((fr2776 63 9 rfl).trans ((u2766.2 63 9 (by omega)).trans ((u2744.2 63 9 (by omega)).trans ((u2733.2 63 9 (by omega)).trans ((fr2724 63 9 rfl).trans v2721e)))))
                                              exact s_iret kx_197_618 (Or.inr ⟨kq_197, by omega⟩) ⟨_, _, rfl, rfl, hI2776, hFm2776, ⟨by omega, by omega, (show LXp M2776 from v2775p.2), (by omega), (by omega), (Or.inr (Or.inr ⟨rfl, by omega, Or.inr ⟨((fr2776 63 46 rfl).trans ((u2766.2 63 46 (by omega)).trans ((u2744.2 63 46 (by omega)).trans ((u2733.2 63 46 (by omega)).trans ((fr2724 63 46 rfl).trans ((fr2584 63 46 rfl).trans (fr2 63 46 rfl))))))), (B0.fr (B0.up (B0.up (show B0 M2733 from hcl2742.2.1) u2744 (by decide)) u2766 ⟨by decide, Or.inl (by decide)⟩) fr2776 rfl (fun _ => rfl)), PI.to7 (PI.fr (PI.phase hP2755 (Or.inl (by decide)) (by omega) u2766) fr2776 rfl) (by omega)⟩⟩))⟩⟩
                                          · refine s_aload_n kx_197_585 rfl ?_
                                            refine s_aload_n kx_197_586 rfl ?_
                                            refine r_getR (k := 63) (f := 40) (k2 := 88) kx_197_587 kp_197_134 (tk_63 hT) kf_12_40 (by decide) (rq_63_40 hI2744) ?_
                                            refine s_iload_n kx_197_590 rfl ?_
                                            refine r_ald (k := 88) kx_197_591 (tk_88 hT) ⟨by omega, by omega⟩ (rg_88 hI2744) (fun v2784 v2784e v2784a v2784b => ?_)
                                            have hpr2785 : v2784 = M2724 88 ((v13 - 1)).toNat := (v2784e).symm.trans ((u2744.2 88 _ (by omega)).trans (u2733.2 88 _ (by omega)))
                                            refine s_iconst (v := 0) kx_197_592 (by decide) ?_
                                            refine s_callV2 (k := 63) (s1 := 3) (s2 := 0) (as := [(0, 0), (0, v2784)]) (rest := []) kx_197_593 kp_197_352 (Or.inl rfl) rfl (tk_63 hT) ki_189 kcl_189 rfl rfl (by decide) (m_189 (d := d + 1) (sort := v2784) (v_ := 0) hT hI2744 (by omega) (by omega)) (kV (fun M2787 hI2787 fr2787 v2786p => ?_))
                                            have hFm2787 := hFm2744.call fr2787 rfl
                                            have tr2788 := (fr2787 63 3 rfl)
                                            have tr2789 := (fr2787 63 4 rfl)
                                            have tr2790 := (fr2787 63 5 rfl)
                                            have tr2791 := (fr2787 63 9 rfl)
                                            have tr2792 := (fr2787 63 42 rfl)
                                            have tr2793 := (fr2787 63 43 rfl)
                                            have tr2794 := (fr2787 63 45 rfl)
                                            have tr2795 := rg_63_9 hI2787
                                            have hP2796 := PI.code4 hP2753 (by omega) (hcl2742.2.2.2 (by omega)) fr2787 v2786p.1 (v2786p.2.1.trans hpr2785) v2786p.2.2
                                            refine s_iload_n kx_197_596 rfl ?_
                                            refine s_iconst (v := 5) kx_197_597 (by decide) ?_
                                            refine s_icmp_ne (t := 613) kx_197_598 (by decide) (fun hc2797 => ?_) (fun hc2797 => absurd hc2797 (by omega))
                                            refine s_aload_n kx_197_613 rfl ?_
                                            refine s_callV2 (k := 63) (s1 := 1) (s2 := 0) (as := []) (rest := []) kx_197_614 kp_197_286 (Or.inl rfl) rfl (tk_63 hT) ki_180 kcl_180 rfl rfl (by decide) (m_180 (d := d) hT hI2787) (kV (fun M2799 hI2799 fr2799 v2798p => ?_))
                                            have hFm2799 := hFm2787.call fr2799 rfl
                                            have tr2800 := (fr2799 63 9 rfl)
                                            have tr2801 := (fr2799 63 35 rfl)
                                            have tr2802 := (fr2799 63 42 rfl)
                                            have tr2803 := (fr2799 63 43 rfl)
                                            have tr2804 := (fr2799 63 45 rfl)
                                            have tr2805 := rg_63_9 hI2799
                                            refine s_iconst (v := 1) kx_197_617 (by decide) ?_
                                            have hk2806 : M2799 63 9 = v2721 := ((fr2799 63 9 rfl).trans ((fr2787 63 9 rfl).trans ((u2744.2 63 9 (by omega)).trans ((u2733.2 63 9 (by omega)).trans ((fr2724 63 9 rfl).trans v2721e)))))
                                            exact s_iret kx_197_618 (Or.inr ⟨kq_197, by omega⟩) ⟨_, _, rfl, rfl, hI2799, hFm2799, ⟨by omega, by omega, (show LXp M2799 from v2798p.2), (by omega), (by omega), (Or.inr (Or.inr ⟨rfl, by omega, Or.inr ⟨((fr2799 63 46 rfl).trans ((fr2787 63 46 rfl).trans ((u2744.2 63 46 (by omega)).trans ((u2733.2 63 46 (by omega)).trans ((fr2724 63 46 rfl).trans ((fr2584 63 46 rfl).trans (fr2 63 46 rfl))))))), (B0.fr (B0.fr (B0.up (show B0 M2733 from hcl2742.2.1) u2744 (by decide)) fr2787 rfl (fun _ => rfl)) fr2799 rfl (fun _ => rfl)), PI.to7 (PI.fr hP2796 fr2799 rfl) (by omega)⟩⟩))⟩⟩
                                        · refine s_iconst (v := 0) kx_197_553 (by decide) ?_
                                          have hk2807 : M2584 63 4 = v2582 := ((fr2584 63 4 rfl).trans v2582e)
                                          have hk2808 : M2584 63 9 = v2721 := v2721e
                                          exact s_iret kx_197_554 (Or.inr ⟨kq_197, by omega⟩) ⟨_, _, rfl, rfl, hI2584, hFm2584, ⟨by omega, by omega, (LXp.fr (LXp.fr hX fr2 rfl) fr2584 rfl), (by omega), (by omega), (Or.inl (by omega))⟩⟩
                                      · replace v2719p := v2719p.resolve_left (by omega)
                                        refine s_aload_n kx_197_537 rfl ?_
                                        refine s_iconst (v := 1) kx_197_538 (by decide) ?_
                                        refine s_aload_n kx_197_539 rfl ?_
                                        refine r_getK (k := 63) (f := 4) kx_197_540 kp_197_23 (tk_63 hT) kf_12_4 (fun _ => rfl) ((fr2584 63 4 rfl).trans v2582e) ?_
                                        refine s_callV2 (k := 63) (s1 := 3) (s2 := 0) (as := [(0, v2582), (0, 1)]) (rest := []) kx_197_543 kp_197_263 (Or.inl rfl) rfl (tk_63 hT) ki_176 kcl_176 rfl rfl (by decide) (m_176 (d := d + 1) (kind := 1) (place := v2582) hT hI2584 (by omega)) (kV (fun M2810 hI2810 fr2810 v2809p => ?_))
                                        have hFm2810 := hFm2584.call fr2810 rfl
                                        have tr2811 := (fr2810 63 3 rfl)
                                        have tr2812 := (fr2810 63 4 rfl)
                                        have tr2813 := (fr2810 63 5 rfl)
                                        have tr2814 := (fr2810 63 35 rfl)
                                        have tr2815 := (fr2810 63 42 rfl)
                                        have tr2816 := (fr2810 63 43 rfl)
                                        have tr2817 := (fr2810 63 45 rfl)
                                        have tr2818 := rg_63_9 hI2810
                                        refine s_aload_n kx_197_546 rfl ?_
                                        refine r_getI (k := 63) (f := 9) kx_197_547 kp_197_39 (tk_63 hT) kf_12_9 (fun _ => rfl) (rg_63_9 hI2810) (fun v2819 v2819e v2819a v2819b => ?_)
                                        refine s_if_le (t := 555) kx_197_550 (by decide) (fun hc2820 => ?_) (fun hc2820 => ?_)
                                        · refine s_aload_n kx_197_555 rfl ?_
                                          refine s_iconst (v := 1) kx_197_556 (by decide) ?_
                                          refine s_callV2 (k := 63) (s1 := 2) (s2 := 0) (as := [(0, 1)]) (rest := []) kx_197_557 kp_197_370 (Or.inl rfl) rfl (tk_63 hT) ki_191 kcl_191 rfl rfl (by decide) (m_191 (d := d) (least := 1) hT hI2810 (PI.fr (PI.fr (PI.fr hP fr2 rfl) fr2584 rfl) fr2810 rfl) (by omega) (by omega) (by omega)) (kV (fun M2822 hI2822 fr2822 v2821p => ?_))
                                          have hFm2822 := hFm2810.call fr2822 rfl
                                          have tr2823 := (fr2822 63 3 rfl)
                                          have tr2824 := (fr2822 63 4 rfl)
                                          have tr2825 := (fr2822 63 5 rfl)
                                          have tr2826 := (fr2822 63 9 rfl)
                                          have tr2827 := (fr2822 63 42 rfl)
                                          have tr2828 := rg_63_9 hI2822
                                          have hd2829 := PI.deep v2821p
                                          have hs2830 := PI.small v2821p (rg_63_43 hI2822).2 (by decide)
                                          have hs2830a := hs2830.1
                                          have hs2830b := hs2830.2.1
                                          have hs2830c := rg_63_45 hI2822
                                          refine s_aload_n kx_197_560 rfl ?_
                                          refine s_dup kx_197_561 rfl ?_
                                          refine r_getK (k := 63) (f := 42) kx_197_562 kp_197_140 (tk_63 hT) kf_12_42 (fun _ => rfl) ((fr2822 63 42 rfl).trans ((fr2810 63 42 rfl).trans ((fr2584 63 42 rfl).trans v13e))) ?_
                                          refine s_iconst (v := 1) kx_197_565 (by decide) ?_
                                          refine r_sub kx_197_566 ⟨by omega, by omega⟩ ?_
                                          refine r_put (k := 63) (f := 42) kx_197_567 kp_197_140 (tk_63 hT) kf_12_42 rfl (by decide) (by decide) hI2822 (ru_63_42 (by omega) (by omega)) (fun M2831 hI2831 u2831 => ?_)
                                          have hFm2831 := hFm2822.up u2831 rfl
                                          have tr2832 := (u2831.2 63 3 (by omega))
                                          have tr2833 := (u2831.2 63 4 (by omega))
                                          have tr2834 := (u2831.2 63 5 (by omega))
                                          have tr2835 := (u2831.2 63 9 (by omega))
                                          have tr2836 := (u2831.2 63 35 (by omega))
                                          have tr2837 := u2831.1
                                          have tr2838 := (u2831.2 63 43 (by omega))
                                          have tr2839 := (u2831.2 63 45 (by omega))
                                          have hcl2840 := PI.close v2821p (by decide) (f := (v13 - 1)) (by omega) ((fr2822 85 _ rfl).trans ((fr2810 85 _ rfl).trans ((fr2584 85 _ rfl).trans v14e))) (by omega) u2831 (by omega)
                                          have hcl2840d := hcl2840.2.2.1
                                          have hcl2840q := PI.deep hcl2840.1
                                          refine s_aload_n kx_197_570 rfl ?_
                                          refine s_dup kx_197_571 rfl ?_
                                          refine r_getI (k := 63) (f := 43) kx_197_572 kp_197_143 (tk_63 hT) kf_12_43 (fun _ => rfl) (rg_63_43 hI2831) (fun v2841 v2841e v2841a v2841b => ?_)
                                          refine s_iconst (v := 1) kx_197_575 (by decide) ?_
                                          refine r_sub kx_197_576 ⟨by omega, by omega⟩ ?_
                                          have hcl2840e := PI.e_le hcl2840.1
                                          refine r_put (k := 63) (f := 43) kx_197_577 kp_197_143 (tk_63 hT) kf_12_43 rfl (by decide) (by decide) hI2831 (ru_63_43 (by omega) (by omega)) (fun M2842 hI2842 u2842 => ?_)
                                          have hFm2842 := hFm2831.up u2842 rfl
                                          have tr2843 := (u2842.2 63 3 (by omega))
                                          have tr2844 := (u2842.2 63 4 (by omega))
                                          have tr2845 := (u2842.2 63 5 (by omega))
                                          have tr2846 := (u2842.2 63 9 (by omega))
                                          have tr2847 := (u2842.2 63 35 (by omega))
                                          have tr2848 := (u2842.2 63 42 (by omega))
                                          have tr2849 := u2842.1
                                          have tr2850 := (u2842.2 63 45 (by omega))
                                          have hP2851 := (PI.opn (e' := 0) hcl2840.1 u2842 (by omega))
                                          refine s_iload_n kx_197_580 rfl ?_
                                          refine s_iconst (v := 4) kx_197_581 (by decide) ?_
                                          refine s_icmp_ne (t := 596) kx_197_582 (by decide) (fun hc2852 => ?_) (fun hc2852 => ?_)
                                          · have hP2853 := PI.comp0 hP2851 (by omega)
                                            refine s_iload_n kx_197_596 rfl ?_
                                            refine s_iconst (v := 5) kx_197_597 (by decide) ?_
                                            refine s_icmp_ne (t := 613) kx_197_598 (by decide) (fun hc2854 => ?_) (fun hc2854 => ?_)
                                            · refine s_aload_n kx_197_613 rfl ?_
                                              refine s_callV2 (k := 63) (s1 := 1) (s2 := 0) (as := []) (rest := []) kx_197_614 kp_197_286 (Or.inl rfl) rfl (tk_63 hT) ki_180 kcl_180 rfl rfl (by decide) (m_180 (d := d) hT hI2842) (kV (fun M2856 hI2856 fr2856 v2855p => ?_))
                                              have hFm2856 := hFm2842.call fr2856 rfl
                                              have tr2857 := (fr2856 63 9 rfl)
                                              have tr2858 := (fr2856 63 35 rfl)
                                              have tr2859 := (fr2856 63 42 rfl)
                                              have tr2860 := (fr2856 63 43 rfl)
                                              have tr2861 := (fr2856 63 45 rfl)
                                              have tr2862 := rg_63_9 hI2856
                                              refine s_iconst (v := 1) kx_197_617 (by decide) ?_
                                              have hk2863 : M2856 63 9 = v2819 := ((fr2856 63 9 rfl).trans ((u2842.2 63 9 (by omega)).trans ((u2831.2 63 9 (by omega)).trans ((fr2822 63 9 rfl).trans v2819e))))
                                              exact s_iret kx_197_618 (Or.inr ⟨kq_197, by omega⟩) ⟨_, _, rfl, rfl, hI2856, hFm2856, ⟨by omega, by omega, (show LXp M2856 from v2855p.2), (by omega), (by omega), (Or.inr (Or.inr ⟨rfl, by omega, Or.inr ⟨((fr2856 63 46 rfl).trans ((u2842.2 63 46 (by omega)).trans ((u2831.2 63 46 (by omega)).trans ((fr2822 63 46 rfl).trans ((fr2810 63 46 rfl).trans ((fr2584 63 46 rfl).trans (fr2 63 46 rfl))))))), (B0.fr (B0.up (show B0 M2831 from hcl2840.2.1) u2842 (by decide)) fr2856 rfl (fun _ => rfl)), PI.to7 (PI.fr hP2853 fr2856 rfl) (by omega)⟩⟩))⟩⟩
                                            · refine s_aload_n kx_197_601 rfl ?_
                                              refine r_getR (k := 63) (f := 38) (k2 := 86) kx_197_602 kp_197_127 (tk_63 hT) kf_12_38 (by decide) (rq_63_38 hI2842) ?_
                                              refine s_aload_n kx_197_605 rfl ?_
                                              refine r_getK (k := 63) (f := 42) kx_197_606 kp_197_140 (tk_63 hT) kf_12_42 (fun _ => rfl) ((u2842.2 63 42 (by omega)).trans u2831.1) ?_
                                              refine s_iconst (v := 1) kx_197_609 (by decide) ?_
                                              refine r_sub kx_197_610 ⟨by omega, by omega⟩ ?_
                                              refine s_iconst (v := 2) kx_197_611 (by decide) ?_
                                              refine r_ast (k := 86) kx_197_612 (tk_86 hT) ⟨by omega, by omega⟩ hI2842 (ru_86 (by omega) (by omega)) (fun M2864 hI2864 u2864 => ?_)
                                              have hFm2864 := hFm2842.up u2864 rfl
                                              have tr2865 := (u2864.2 63 3 (by omega))
                                              have tr2866 := (u2864.2 63 4 (by omega))
                                              have tr2867 := (u2864.2 63 5 (by omega))
                                              have tr2868 := (u2864.2 63 9 (by omega))
                                              have tr2869 := (u2864.2 63 35 (by omega))
                                              have tr2870 := (u2864.2 63 42 (by omega))
                                              have tr2871 := (u2864.2 63 43 (by omega))
                                              have tr2872 := (u2864.2 63 45 (by omega))
                                              refine s_aload_n kx_197_613 rfl ?_
                                              refine s_callV2 (k := 63) (s1 := 1) (s2 := 0) (as := []) (rest := []) kx_197_614 kp_197_286 (Or.inl rfl) rfl (tk_63 hT) ki_180 kcl_180 rfl rfl (by decide) (m_180 (d := d) hT hI2864) (kV (fun M2874 hI2874 fr2874 v2873p => ?_))
                                              have hFm2874 := hFm2864.call fr2874 rfl
                                              have tr2875 := (fr2874 63 9 rfl)
                                              have tr2876 := (fr2874 63 35 rfl)
                                              have tr2877 := (fr2874 63 42 rfl)
                                              have tr2878 := (fr2874 63 43 rfl)
                                              have tr2879 := (fr2874 63 45 rfl)
                                              have tr2880 := rg_63_9 hI2874
                                              refine s_iconst (v := 1) kx_197_617 (by decide) ?_
                                              have hk2881 : M2874 63 9 = v2819 := ((fr2874 63 9 rfl).trans ((u2864.2 63 9 (by omega)).trans ((u2842.2 63 9 (by omega)).trans ((u2831.2 63 9 (by omega)).trans ((fr2822 63 9 rfl).trans v2819e)))))
                                              exact s_iret kx_197_618 (Or.inr ⟨kq_197, by omega⟩) ⟨_, _, rfl, rfl, hI2874, hFm2874, ⟨by omega, by omega, (show LXp M2874 from v2873p.2), (by omega), (by omega), (Or.inr (Or.inr ⟨rfl, by omega, Or.inr ⟨((fr2874 63 46 rfl).trans ((u2864.2 63 46 (by omega)).trans ((u2842.2 63 46 (by omega)).trans ((u2831.2 63 46 (by omega)).trans ((fr2822 63 46 rfl).trans ((fr2810 63 46 rfl).trans ((fr2584 63 46 rfl).trans (fr2 63 46 rfl)))))))), (B0.fr (B0.up (B0.up (show B0 M2831 from hcl2840.2.1) u2842 (by decide)) u2864 ⟨by decide, Or.inl (by decide)⟩) fr2874 rfl (fun _ => rfl)), PI.to7 (PI.fr (PI.phase hP2853 (Or.inl (by decide)) (by omega) u2864) fr2874 rfl) (by omega)⟩⟩))⟩⟩
                                          · refine s_aload_n kx_197_585 rfl ?_
                                            refine s_aload_n kx_197_586 rfl ?_
                                            refine r_getR (k := 63) (f := 40) (k2 := 88) kx_197_587 kp_197_134 (tk_63 hT) kf_12_40 (by decide) (rq_63_40 hI2842) ?_
                                            refine s_iload_n kx_197_590 rfl ?_
                                            refine r_ald (k := 88) kx_197_591 (tk_88 hT) ⟨by omega, by omega⟩ (rg_88 hI2842) (fun v2882 v2882e v2882a v2882b => ?_)
                                            have hpr2883 : v2882 = M2822 88 ((v13 - 1)).toNat := (v2882e).symm.trans ((u2842.2 88 _ (by omega)).trans (u2831.2 88 _ (by omega)))
                                            refine s_iconst (v := 0) kx_197_592 (by decide) ?_
                                            refine s_callV2 (k := 63) (s1 := 3) (s2 := 0) (as := [(0, 0), (0, v2882)]) (rest := []) kx_197_593 kp_197_352 (Or.inl rfl) rfl (tk_63 hT) ki_189 kcl_189 rfl rfl (by decide) (m_189 (d := d + 1) (sort := v2882) (v_ := 0) hT hI2842 (by omega) (by omega)) (kV (fun M2885 hI2885 fr2885 v2884p => ?_))
                                            have hFm2885 := hFm2842.call fr2885 rfl
                                            have tr2886 := (fr2885 63 3 rfl)
                                            have tr2887 := (fr2885 63 4 rfl)
                                            have tr2888 := (fr2885 63 5 rfl)
                                            have tr2889 := (fr2885 63 9 rfl)
                                            have tr2890 := (fr2885 63 42 rfl)
                                            have tr2891 := (fr2885 63 43 rfl)
                                            have tr2892 := (fr2885 63 45 rfl)
                                            have tr2893 := rg_63_9 hI2885
                                            have hP2894 := PI.code4 hP2851 (by omega) (hcl2840.2.2.2 (by omega)) fr2885 v2884p.1 (v2884p.2.1.trans hpr2883) v2884p.2.2
                                            refine s_iload_n kx_197_596 rfl ?_
                                            refine s_iconst (v := 5) kx_197_597 (by decide) ?_
                                            refine s_icmp_ne (t := 613) kx_197_598 (by decide) (fun hc2895 => ?_) (fun hc2895 => absurd hc2895 (by omega))
                                            refine s_aload_n kx_197_613 rfl ?_
                                            refine s_callV2 (k := 63) (s1 := 1) (s2 := 0) (as := []) (rest := []) kx_197_614 kp_197_286 (Or.inl rfl) rfl (tk_63 hT) ki_180 kcl_180 rfl rfl (by decide) (m_180 (d := d) hT hI2885) (kV (fun M2897 hI2897 fr2897 v2896p => ?_))
                                            have hFm2897 := hFm2885.call fr2897 rfl
                                            have tr2898 := (fr2897 63 9 rfl)
                                            have tr2899 := (fr2897 63 35 rfl)
                                            have tr2900 := (fr2897 63 42 rfl)
                                            have tr2901 := (fr2897 63 43 rfl)
                                            have tr2902 := (fr2897 63 45 rfl)
                                            have tr2903 := rg_63_9 hI2897
                                            refine s_iconst (v := 1) kx_197_617 (by decide) ?_
                                            have hk2904 : M2897 63 9 = v2819 := ((fr2897 63 9 rfl).trans ((fr2885 63 9 rfl).trans ((u2842.2 63 9 (by omega)).trans ((u2831.2 63 9 (by omega)).trans ((fr2822 63 9 rfl).trans v2819e)))))
                                            exact s_iret kx_197_618 (Or.inr ⟨kq_197, by omega⟩) ⟨_, _, rfl, rfl, hI2897, hFm2897, ⟨by omega, by omega, (show LXp M2897 from v2896p.2), (by omega), (by omega), (Or.inr (Or.inr ⟨rfl, by omega, Or.inr ⟨((fr2897 63 46 rfl).trans ((fr2885 63 46 rfl).trans ((u2842.2 63 46 (by omega)).trans ((u2831.2 63 46 (by omega)).trans ((fr2822 63 46 rfl).trans ((fr2810 63 46 rfl).trans ((fr2584 63 46 rfl).trans (fr2 63 46 rfl)))))))), (B0.fr (B0.fr (B0.up (show B0 M2831 from hcl2840.2.1) u2842 (by decide)) fr2885 rfl (fun _ => rfl)) fr2897 rfl (fun _ => rfl)), PI.to7 (PI.fr hP2894 fr2897 rfl) (by omega)⟩⟩))⟩⟩
                                        · refine s_iconst (v := 0) kx_197_553 (by decide) ?_
                                          have hk2905 : M2810 63 4 = v2582 := ((fr2810 63 4 rfl).trans ((fr2584 63 4 rfl).trans v2582e))
                                          have hk2906 : M2810 63 9 = v2819 := v2819e
                                          exact s_iret kx_197_554 (Or.inr ⟨kq_197, by omega⟩) ⟨_, _, rfl, rfl, hI2810, hFm2810, ⟨by omega, by omega, (LXp.fr (LXp.fr (LXp.fr hX fr2 rfl) fr2584 rfl) fr2810 rfl), (by omega), (by omega), (Or.inl (by omega))⟩⟩
                                    refine s_icmp_ne (t := 529) kx_197_521 (by decide) (fun hc2712 => ?_) (fun hc2712 => ?_)
                                    · have hJ2713 : Fr fS_197_j521 M2584 M2584 := Fr.refl
                                      refine s_bipush (v := 41) kx_197_529 (by decide) ?_
                                      exact cP.wk (lS1 rfl (lS1 rfl (lS1 rfl lS0))) (jn2716 41 (by omega) (by omega))
                                    · have hJ2714 : Fr fS_197_j521 M2584 M2584 := Fr.refl
                                      refine s_bipush (v := 93) kx_197_524 (by decide) ?_
                                      refine s_goto (t := 531) kx_197_526 (by decide) ?_
                                      exact cP.wk (lS1 rfl (lS1 rfl (lS1 rfl lS0))) (jn2716 93 (by omega) (by omega))
                                  · refine s_aload_n kx_197_452 rfl ?_
                                    refine s_bipush (v := 44) kx_197_453 (by decide) ?_
                                    refine s_callV2 (k := 63) (s1 := 2) (s2 := 0) (as := [(0, 44)]) (rest := []) kx_197_455 kp_197_283 (Or.inl rfl) rfl (tk_63 hT) ki_181 kcl_181 rfl rfl (by decide) (m_181 (d := d + 1) (c := 44) hT hI2584) (kF (fun v2907 v2907p => ?_))
                                    refine s_if_ne (t := 470) kx_197_458 (by decide) (fun hc2908 => ?_) (fun hc2908 => ?_)
                                    · replace v2907p := v2907p.resolve_right (by omega)
                                      refine s_aload_n kx_197_470 rfl ?_
                                      refine r_getI (k := 63) (f := 9) kx_197_471 kp_197_39 (tk_63 hT) kf_12_9 (fun _ => rfl) (rg_63_9 hI2584) (fun v2909 v2909e v2909a v2909b => ?_)
                                      refine s_if_le (t := 479) kx_197_474 (by decide) (fun hc2910 => ?_) (fun hc2910 => ?_)
                                      · refine s_aload_n kx_197_479 rfl ?_
                                        refine s_iconst (v := 1) kx_197_480 (by decide) ?_
                                        refine s_callV2 (k := 63) (s1 := 2) (s2 := 0) (as := [(0, 1)]) (rest := []) kx_197_481 kp_197_370 (Or.inl rfl) rfl (tk_63 hT) ki_191 kcl_191 rfl rfl (by decide) (m_191 (d := d) (least := 1) hT hI2584 (PI.fr (PI.fr hP fr2 rfl) fr2584 rfl) (by omega) (by omega) (by omega)) (kV (fun M2912 hI2912 fr2912 v2911p => ?_))
                                        have hFm2912 := hFm2584.call fr2912 rfl
                                        have tr2913 := (fr2912 63 3 rfl)
                                        have tr2914 := (fr2912 63 4 rfl)
                                        have tr2915 := (fr2912 63 5 rfl)
                                        have tr2916 := (fr2912 63 9 rfl)
                                        have tr2917 := (fr2912 63 42 rfl)
                                        have tr2918 := rg_63_9 hI2912
                                        have hd2919 := PI.deep v2911p
                                        have hs2920 := PI.small v2911p (rg_63_43 hI2912).2 (by decide)
                                        have hs2920a := hs2920.1
                                        have hs2920b := hs2920.2.1
                                        have hs2920c := rg_63_45 hI2912
                                        have hk852921 : M2912 85 ((v13 - 1)).toNat = v14 := ((fr2912 85 _ rfl).trans ((fr2584 85 _ rfl).trans v14e))
                                        refine s_aload_n kx_197_484 rfl ?_
                                        refine r_getR (k := 63) (f := 37) (k2 := 85) kx_197_485 kp_197_124 (tk_63 hT) kf_12_37 (by decide) (rq_63_37 hI2912) ?_
                                        refine s_iload_n kx_197_488 rfl ?_
                                        refine s_iload_n kx_197_489 rfl ?_
                                        refine s_iconst (v := 3) kx_197_490 (by decide) ?_
                                        refine s_icmp_ne (t := 498) kx_197_491 (by decide) (fun hc2922 => ?_) (fun hc2922 => absurd hc2922 (by omega))
                                        refine s_iconst (v := 3) kx_197_498 (by decide) ?_
                                        refine r_ast (k := 85) kx_197_499 (tk_85 hT) ⟨by omega, by omega⟩ hI2912 (ru_85 (by omega) (by omega)) (fun M2923 hI2923 u2923 => ?_)
                                        have hFm2923 := hFm2912.up u2923 rfl
                                        have tr2924 := (u2923.2 63 3 (by omega))
                                        have tr2925 := (u2923.2 63 4 (by omega))
                                        have tr2926 := (u2923.2 63 5 (by omega))
                                        have tr2927 := (u2923.2 63 9 (by omega))
                                        have tr2928 := (u2923.2 63 35 (by omega))
                                        have tr2929 := (u2923.2 63 42 (by omega))
                                        have tr2930 := (u2923.2 63 43 (by omega))
                                        have tr2931 := (u2923.2 63 45 (by omega))
                                        refine s_aload_n kx_197_500 rfl ?_
                                        refine r_getR (k := 63) (f := 38) (k2 := 86) kx_197_501 kp_197_127 (tk_63 hT) kf_12_38 (by decide) (rq_63_38 hI2923) ?_
                                        refine s_iload_n kx_197_504 rfl ?_
                                        refine s_iconst (v := 0) kx_197_505 (by decide) ?_
                                        refine r_ast (k := 86) kx_197_506 (tk_86 hT) ⟨by omega, by omega⟩ hI2923 (ru_86 (by omega) (by omega)) (fun M2932 hI2932 u2932 => ?_)
                                        have hFm2932 := hFm2923.up u2932 rfl
                                        have tr2933 := (u2932.2 63 3 (by omega))
                                        have tr2934 := (u2932.2 63 4 (by omega))
                                        have tr2935 := (u2932.2 63 5 (by omega))
                                        have tr2936 := (u2932.2 63 9 (by omega))
                                        have tr2937 := (u2932.2 63 35 (by omega))
                                        have tr2938 := (u2932.2 63 42 (by omega))
                                        have tr2939 := (u2932.2 63 43 (by omega))
                                        have tr2940 := (u2932.2 63 45 (by omega))
                                        refine s_aload_n kx_197_507 rfl ?_
                                        refine s_callV2 (k := 63) (s1 := 1) (s2 := 0) (as := []) (rest := []) kx_197_508 kp_197_286 (Or.inl rfl) rfl (tk_63 hT) ki_180 kcl_180 rfl rfl (by decide) (m_180 (d := d) hT hI2932) (kV (fun M2942 hI2942 fr2942 v2941p => ?_))
                                        have hFm2942 := hFm2932.call fr2942 rfl
                                        have tr2943 := (fr2942 63 9 rfl)
                                        have tr2944 := (fr2942 63 35 rfl)
                                        have tr2945 := (fr2942 63 42 rfl)
                                        have tr2946 := (fr2942 63 43 rfl)
                                        have tr2947 := (fr2942 63 45 rfl)
                                        have tr2948 := rg_63_9 hI2942
                                        refine s_aload_n kx_197_511 rfl ?_
                                        refine s_iconst (v := 0) kx_197_512 (by decide) ?_
                                        refine r_put (k := 63) (f := 46) kx_197_513 kp_197_152 (tk_63 hT) kf_12_46 rfl (by decide) (by decide) hI2942 (ru_63_46 (by omega) (by omega)) (fun M2949 hI2949 u2949 => ?_)
                                        have hFm2949 := hFm2942.up u2949 rfl
                                        have tr2950 := (u2949.2 63 3 (by omega))
                                        have tr2951 := (u2949.2 63 4 (by omega))
                                        have tr2952 := (u2949.2 63 5 (by omega))
                                        have tr2953 := (u2949.2 63 9 (by omega))
                                        have tr2954 := (u2949.2 63 35 (by omega))
                                        have tr2955 := (u2949.2 63 42 (by omega))
                                        have tr2956 := (u2949.2 63 43 (by omega))
                                        have tr2957 := (u2949.2 63 45 (by omega))
                                        refine s_iconst (v := 1) kx_197_516 (by decide) ?_
                                        have hk2958 : M2949 63 9 = v2909 := ((u2949.2 63 9 (by omega)).trans ((fr2942 63 9 rfl).trans ((u2932.2 63 9 (by omega)).trans ((u2923.2 63 9 (by omega)).trans ((fr2912 63 9 rfl).trans v2909e)))))
                                        exact s_iret kx_197_517 (Or.inr ⟨kq_197, by omega⟩) ⟨_, _, rfl, rfl, hI2949, hFm2949, ⟨by omega, by omega, (LXp.up (show LXp M2942 from v2941p.2) u2949 (by decide)), (by omega), (by omega), (Or.inr (Or.inr ⟨rfl, by omega, Or.inl ⟨u2949.1, PI.to7 (PI.fr (PI.fr (PI.phase (PI.comma v2911p (by omega) (by omega) u2923) (Or.inr (by omega)) (by omega) u2932) fr2942 rfl) (Up.fr u2949) rfl) (by omega)⟩⟩))⟩⟩
                                      · refine s_iconst (v := 0) kx_197_477 (by decide) ?_
                                        have hk2959 : M2584 63 4 = v2582 := ((fr2584 63 4 rfl).trans v2582e)
                                        have hk2960 : M2584 63 9 = v2909 := v2909e
                                        exact s_iret kx_197_478 (Or.inr ⟨kq_197, by omega⟩) ⟨_, _, rfl, rfl, hI2584, hFm2584, ⟨by omega, by omega, (LXp.fr (LXp.fr hX fr2 rfl) fr2584 rfl), (by omega), (by omega), (Or.inl (by omega))⟩⟩
                                    · replace v2907p := v2907p.resolve_left (by omega)
                                      refine s_aload_n kx_197_461 rfl ?_
                                      refine s_iconst (v := 1) kx_197_462 (by decide) ?_
                                      refine s_aload_n kx_197_463 rfl ?_
                                      refine r_getK (k := 63) (f := 4) kx_197_464 kp_197_23 (tk_63 hT) kf_12_4 (fun _ => rfl) ((fr2584 63 4 rfl).trans v2582e) ?_
                                      refine s_callV2 (k := 63) (s1 := 3) (s2 := 0) (as := [(0, v2582), (0, 1)]) (rest := []) kx_197_467 kp_197_263 (Or.inl rfl) rfl (tk_63 hT) ki_176 kcl_176 rfl rfl (by decide) (m_176 (d := d + 1) (kind := 1) (place := v2582) hT hI2584 (by omega)) (kV (fun M2962 hI2962 fr2962 v2961p => ?_))
                                      have hFm2962 := hFm2584.call fr2962 rfl
                                      have tr2963 := (fr2962 63 3 rfl)
                                      have tr2964 := (fr2962 63 4 rfl)
                                      have tr2965 := (fr2962 63 5 rfl)
                                      have tr2966 := (fr2962 63 35 rfl)
                                      have tr2967 := (fr2962 63 42 rfl)
                                      have tr2968 := (fr2962 63 43 rfl)
                                      have tr2969 := (fr2962 63 45 rfl)
                                      have tr2970 := rg_63_9 hI2962
                                      refine s_aload_n kx_197_470 rfl ?_
                                      refine r_getI (k := 63) (f := 9) kx_197_471 kp_197_39 (tk_63 hT) kf_12_9 (fun _ => rfl) (rg_63_9 hI2962) (fun v2971 v2971e v2971a v2971b => ?_)
                                      refine s_if_le (t := 479) kx_197_474 (by decide) (fun hc2972 => ?_) (fun hc2972 => ?_)
                                      · refine s_aload_n kx_197_479 rfl ?_
                                        refine s_iconst (v := 1) kx_197_480 (by decide) ?_
                                        refine s_callV2 (k := 63) (s1 := 2) (s2 := 0) (as := [(0, 1)]) (rest := []) kx_197_481 kp_197_370 (Or.inl rfl) rfl (tk_63 hT) ki_191 kcl_191 rfl rfl (by decide) (m_191 (d := d) (least := 1) hT hI2962 (PI.fr (PI.fr (PI.fr hP fr2 rfl) fr2584 rfl) fr2962 rfl) (by omega) (by omega) (by omega)) (kV (fun M2974 hI2974 fr2974 v2973p => ?_))
                                        have hFm2974 := hFm2962.call fr2974 rfl
                                        have tr2975 := (fr2974 63 3 rfl)
                                        have tr2976 := (fr2974 63 4 rfl)
                                        have tr2977 := (fr2974 63 5 rfl)
                                        have tr2978 := (fr2974 63 9 rfl)
                                        have tr2979 := (fr2974 63 42 rfl)
                                        have tr2980 := rg_63_9 hI2974
                                        have hd2981 := PI.deep v2973p
                                        have hs2982 := PI.small v2973p (rg_63_43 hI2974).2 (by decide)
                                        have hs2982a := hs2982.1
                                        have hs2982b := hs2982.2.1
                                        have hs2982c := rg_63_45 hI2974
                                        have hk852983 : M2974 85 ((v13 - 1)).toNat = v14 := ((fr2974 85 _ rfl).trans ((fr2962 85 _ rfl).trans ((fr2584 85 _ rfl).trans v14e)))
                                        refine s_aload_n kx_197_484 rfl ?_
                                        refine r_getR (k := 63) (f := 37) (k2 := 85) kx_197_485 kp_197_124 (tk_63 hT) kf_12_37 (by decide) (rq_63_37 hI2974) ?_
                                        refine s_iload_n kx_197_488 rfl ?_
                                        refine s_iload_n kx_197_489 rfl ?_
                                        refine s_iconst (v := 3) kx_197_490 (by decide) ?_
                                        refine s_icmp_ne (t := 498) kx_197_491 (by decide) (fun hc2984 => ?_) (fun hc2984 => absurd hc2984 (by omega))
                                        refine s_iconst (v := 3) kx_197_498 (by decide) ?_
                                        refine r_ast (k := 85) kx_197_499 (tk_85 hT) ⟨by omega, by omega⟩ hI2974 (ru_85 (by omega) (by omega)) (fun M2985 hI2985 u2985 => ?_)
                                        have hFm2985 := hFm2974.up u2985 rfl
                                        have tr2986 := (u2985.2 63 3 (by omega))
                                        have tr2987 := (u2985.2 63 4 (by omega))
                                        have tr2988 := (u2985.2 63 5 (by omega))
                                        have tr2989 := (u2985.2 63 9 (by omega))
                                        have tr2990 := (u2985.2 63 35 (by omega))
                                        have tr2991 := (u2985.2 63 42 (by omega))
                                        have tr2992 := (u2985.2 63 43 (by omega))
                                        have tr2993 := (u2985.2 63 45 (by omega))
                                        refine s_aload_n kx_197_500 rfl ?_
                                        refine r_getR (k := 63) (f := 38) (k2 := 86) kx_197_501 kp_197_127 (tk_63 hT) kf_12_38 (by decide) (rq_63_38 hI2985) ?_
                                        refine s_iload_n kx_197_504 rfl ?_
                                        refine s_iconst (v := 0) kx_197_505 (by decide) ?_
                                        refine r_ast (k := 86) kx_197_506 (tk_86 hT) ⟨by omega, by omega⟩ hI2985 (ru_86 (by omega) (by omega)) (fun M2994 hI2994 u2994 => ?_)
                                        have hFm2994 := hFm2985.up u2994 rfl
                                        have tr2995 := (u2994.2 63 3 (by omega))
                                        have tr2996 := (u2994.2 63 4 (by omega))
                                        have tr2997 := (u2994.2 63 5 (by omega))
                                        have tr2998 := (u2994.2 63 9 (by omega))
                                        have tr2999 := (u2994.2 63 35 (by omega))
                                        have tr3000 := (u2994.2 63 42 (by omega))
                                        have tr3001 := (u2994.2 63 43 (by omega))
                                        have tr3002 := (u2994.2 63 45 (by omega))
                                        refine s_aload_n kx_197_507 rfl ?_
                                        refine s_callV2 (k := 63) (s1 := 1) (s2 := 0) (as := []) (rest := []) kx_197_508 kp_197_286 (Or.inl rfl) rfl (tk_63 hT) ki_180 kcl_180 rfl rfl (by decide) (m_180 (d := d) hT hI2994) (kV (fun M3004 hI3004 fr3004 v3003p => ?_))
                                        have hFm3004 := hFm2994.call fr3004 rfl
                                        have tr3005 := (fr3004 63 9 rfl)
                                        have tr3006 := (fr3004 63 35 rfl)
                                        have tr3007 := (fr3004 63 42 rfl)
                                        have tr3008 := (fr3004 63 43 rfl)
                                        have tr3009 := (fr3004 63 45 rfl)
                                        have tr3010 := rg_63_9 hI3004
                                        refine s_aload_n kx_197_511 rfl ?_
                                        refine s_iconst (v := 0) kx_197_512 (by decide) ?_
                                        refine r_put (k := 63) (f := 46) kx_197_513 kp_197_152 (tk_63 hT) kf_12_46 rfl (by decide) (by decide) hI3004 (ru_63_46 (by omega) (by omega)) (fun M3011 hI3011 u3011 => ?_)
                                        have hFm3011 := hFm3004.up u3011 rfl
                                        have tr3012 := (u3011.2 63 3 (by omega))
                                        have tr3013 := (u3011.2 63 4 (by omega))
                                        have tr3014 := (u3011.2 63 5 (by omega))
                                        have tr3015 := (u3011.2 63 9 (by omega))
                                        have tr3016 := (u3011.2 63 35 (by omega))
                                        have tr3017 := (u3011.2 63 42 (by omega))
                                        have tr3018 := (u3011.2 63 43 (by omega))
                                        have tr3019 := (u3011.2 63 45 (by omega))
                                        refine s_iconst (v := 1) kx_197_516 (by decide) ?_
                                        have hk3020 : M3011 63 9 = v2971 := ((u3011.2 63 9 (by omega)).trans ((fr3004 63 9 rfl).trans ((u2994.2 63 9 (by omega)).trans ((u2985.2 63 9 (by omega)).trans ((fr2974 63 9 rfl).trans v2971e)))))
                                        exact s_iret kx_197_517 (Or.inr ⟨kq_197, by omega⟩) ⟨_, _, rfl, rfl, hI3011, hFm3011, ⟨by omega, by omega, (LXp.up (show LXp M3004 from v3003p.2) u3011 (by decide)), (by omega), (by omega), (Or.inr (Or.inr ⟨rfl, by omega, Or.inl ⟨u3011.1, PI.to7 (PI.fr (PI.fr (PI.phase (PI.comma v2973p (by omega) (by omega) u2985) (Or.inr (by omega)) (by omega) u2994) fr3004 rfl) (Up.fr u3011) rfl) (by omega)⟩⟩))⟩⟩
                                      · refine s_iconst (v := 0) kx_197_477 (by decide) ?_
                                        have hk3021 : M2962 63 4 = v2582 := ((fr2962 63 4 rfl).trans ((fr2584 63 4 rfl).trans v2582e))
                                        have hk3022 : M2962 63 9 = v2971 := v2971e
                                        exact s_iret kx_197_478 (Or.inr ⟨kq_197, by omega⟩) ⟨_, _, rfl, rfl, hI2962, hFm2962, ⟨by omega, by omega, (LXp.fr (LXp.fr (LXp.fr hX fr2 rfl) fr2584 rfl) fr2962 rfl), (by omega), (by omega), (Or.inl (by omega))⟩⟩
                              · refine s_aload_n kx_197_427 rfl ?_
                                refine r_getI (k := 63) (f := 9) kx_197_428 kp_197_39 (tk_63 hT) kf_12_9 (fun _ => rfl) (rg_63_9 hI2584) (fun v3023 v3023e v3023a v3023b => ?_)
                                refine s_if_ne (t := 439) kx_197_431 (by decide) (fun hc3024 => ?_) (fun hc3024 => ?_)
                                · refine s_iconst (v := 0) kx_197_439 (by decide) ?_
                                  have hk3025 : M2584 63 4 = v2582 := ((fr2584 63 4 rfl).trans v2582e)
                                  have hk3026 : M2584 63 9 = v3023 := v3023e
                                  exact s_iret kx_197_440 (Or.inr ⟨kq_197, by omega⟩) ⟨_, _, rfl, rfl, hI2584, hFm2584, ⟨by omega, by omega, (LXp.fr (LXp.fr hX fr2 rfl) fr2584 rfl), (by omega), (by omega), (Or.inl (by omega))⟩⟩
                                · refine s_aload_n kx_197_434 rfl ?_
                                  refine s_iconst (v := 1) kx_197_435 (by decide) ?_
                                  refine s_callV2 (k := 63) (s1 := 2) (s2 := 0) (as := [(0, 1)]) (rest := []) kx_197_436 kp_197_370 (Or.inl rfl) rfl (tk_63 hT) ki_191 kcl_191 rfl rfl (by decide) (m_191 (d := d) (least := 1) hT hI2584 (PI.fr (PI.fr hP fr2 rfl) fr2584 rfl) (by omega) (by omega) (by omega)) (kV (fun M3028 hI3028 fr3028 v3027p => ?_))
                                  have hFm3028 := hFm2584.call fr3028 rfl
                                  have tr3029 := (fr3028 63 3 rfl)
                                  have tr3030 := (fr3028 63 4 rfl)
                                  have tr3031 := (fr3028 63 5 rfl)
                                  have tr3032 := (fr3028 63 9 rfl)
                                  have tr3033 := (fr3028 63 42 rfl)
                                  have tr3034 := rg_63_9 hI3028
                                  refine s_iconst (v := 0) kx_197_439 (by decide) ?_
                                  have hk3035 : M3028 63 4 = v2582 := ((fr3028 63 4 rfl).trans ((fr2584 63 4 rfl).trans v2582e))
                                  have hk3036 : M3028 63 9 = v3023 := ((fr3028 63 9 rfl).trans v3023e)
                                  exact s_iret kx_197_440 (Or.inr ⟨kq_197, by omega⟩) ⟨_, _, rfl, rfl, hI3028, hFm3028, ⟨by omega, by omega, (LXp.fr (LXp.fr (LXp.fr hX fr2 rfl) fr2584 rfl) fr3028 rfl), (by omega), (by omega), (if h9 : 1 ≤ M3028 63 9 then Or.inl h9 else Or.inr (Or.inl ⟨rfl, PI.to7 v3027p (by omega)⟩))⟩⟩
                            · replace v2578p := v2578p.resolve_right (by omega)
                              refine s_aload_n kx_197_309 rfl ?_
                              refine r_getR (k := 63) (f := 38) (k2 := 86) kx_197_310 kp_197_127 (tk_63 hT) kf_12_38 (by decide) (rq_63_38 hI2) ?_
                              refine s_iload_n kx_197_313 rfl ?_
                              refine r_aldK (k := 86) kx_197_314 (tk_86 hT) ⟨by omega, by omega⟩ v16e ?_
                              refine s_if_ne (t := 327) kx_197_315 (by decide) (fun hc3037 => absurd hc3037 (by omega)) (fun hc3037 => ?_)
                              refine s_aload_n kx_197_318 rfl ?_
                              refine s_iconst (v := 1) kx_197_319 (by decide) ?_
                              refine s_aload_n kx_197_320 rfl ?_
                              refine r_getI (k := 63) (f := 4) kx_197_321 kp_197_23 (tk_63 hT) kf_12_4 (fun _ => rfl) (rg_63_4 hI2) (fun v3038 v3038e v3038a v3038b => ?_)
                              have v3038z : M 63 4 = v3038 := ((fr2 63 4 rfl)).symm.trans v3038e
                              refine s_callV2 (k := 63) (s1 := 3) (s2 := 0) (as := [(0, v3038), (0, 1)]) (rest := []) kx_197_324 kp_197_263 (Or.inl rfl) rfl (tk_63 hT) ki_176 kcl_176 rfl rfl (by decide) (m_176 (d := d + 1) (kind := 1) (place := v3038) hT hI2 (by omega)) (kV (fun M3040 hI3040 fr3040 v3039p => ?_))
                              have hFm3040 := hFm2.call fr3040 rfl
                              have tr3041 := (fr3040 63 3 rfl)
                              have tr3042 := (fr3040 63 4 rfl)
                              have tr3043 := (fr3040 63 5 rfl)
                              have tr3044 := (fr3040 63 35 rfl)
                              have tr3045 := (fr3040 63 42 rfl)
                              have tr3046 := (fr3040 63 43 rfl)
                              have tr3047 := (fr3040 63 45 rfl)
                              have tr3048 := rg_63_9 hI3040
                              refine s_aload_n kx_197_327 rfl ?_
                              refine r_getI (k := 63) (f := 9) kx_197_328 kp_197_39 (tk_63 hT) kf_12_9 (fun _ => rfl) (rg_63_9 hI3040) (fun v3049 v3049e v3049a v3049b => ?_)
                              refine s_if_le (t := 336) kx_197_331 (by decide) (fun hc3050 => ?_) (fun hc3050 => ?_)
                              · refine s_aload_n kx_197_336 rfl ?_
                                refine s_ldc2_w kx_197_337 kp_197_327 ?_
                                refine s_callV2 (k := 63) (s1 := 3) (s2 := 0) (as := [(1, 6385252)]) (rest := []) kx_197_340 kp_197_361 (Or.inl rfl) rfl (tk_63 hT) ki_182 kcl_182 rfl rfl (by decide) (m_182 (d := d + 1) (w := 6385252) hT hI3040) (kF (fun v3051 v3051p => ?_))
                                refine s_istore kx_197_343 km_197_4 rfl ?_
                                refine s_aload_n kx_197_345 rfl ?_
                                refine s_iload kx_197_346 rfl ?_
                                have jn3056 : ∀ (y3055 : Int), (1 ≤ y3055) → (y3055 ≤ 2) → ((y3055 = 2 ∧ v3051 ≠ 0) ∨ (y3055 = 1 ∧ v3051 = 0)) → cP k_P xs Ln (d + 2) 197 356 [(0, rf 63), (1, (0, (v13 - 1))), (4, (0, v3051))] [(0, y3055), rf 63] (T, M3040) (qW T M fS_197_m 0 (fun v M1 => 0 ≤ v ∧ v ≤ 1 ∧ (LXp M1 ∧ M 63 4 ≤ M1 63 4 ∧ M 63 9 ≤ M1 63 9 ∧ (GOd M M1 c a v)))) := by
                                  intro y3055 a3057 a3058 a3059
                                  refine s_callV2 (k := 63) (s1 := 2) (s2 := 0) (as := [(0, y3055)]) (rest := []) kx_197_356 kp_197_370 (Or.inl rfl) rfl (tk_63 hT) ki_191 kcl_191 rfl rfl (by decide) (m_191 (d := d) (least := y3055) hT hI3040 (PI.fr (PI.fr hP fr2 rfl) fr3040 rfl) (by omega) (by omega) (by omega)) (kV (fun M3061 hI3061 fr3061 v3060p => ?_))
                                  have hFm3061 := hFm3040.call fr3061 rfl
                                  have tr3062 := (fr3061 63 3 rfl)
                                  have tr3063 := (fr3061 63 4 rfl)
                                  have tr3064 := (fr3061 63 5 rfl)
                                  have tr3065 := (fr3061 63 9 rfl)
                                  have tr3066 := (fr3061 63 42 rfl)
                                  have tr3067 := rg_63_9 hI3061
                                  have hd3068 := PI.deep v3060p
                                  have hs3069 := PI.small v3060p (rg_63_43 hI3061).2 (by decide)
                                  have hs3069a := hs3069.1
                                  have hs3069b := hs3069.2.1
                                  have hs3069c := rg_63_45 hI3061
                                  refine s_aload_n kx_197_359 rfl ?_
                                  refine s_iload kx_197_360 rfl ?_
                                  have jn3074 : ∀ (y3073 : Int), (20 ≤ y3073) → (y3073 ≤ 21) → ((y3073 = 20 ∧ v3051 ≠ 0) ∨ (y3073 = 21 ∧ v3051 = 0)) → cP k_P xs Ln (d + 2) 197 372 [(0, rf 63), (1, (0, (v13 - 1)))] [(0, y3073), rf 63] (T, M3061) (qW T M fS_197_m 0 (fun v M1 => 0 ≤ v ∧ v ≤ 1 ∧ (LXp M1 ∧ M 63 4 ≤ M1 63 4 ∧ M 63 9 ≤ M1 63 9 ∧ (GOd M M1 c a v)))) := by
                                    intro y3073 a3075 a3076 a3077
                                    refine s_callV2 (k := 63) (s1 := 2) (s2 := 0) (as := [(0, y3073)]) (rest := []) kx_197_372 kp_197_364 (Or.inl rfl) rfl (tk_63 hT) ki_192 kcl_192 rfl rfl (by decide) (m_192 (d := d + 1) (op := y3073) hT hI3061 (by omega) (by omega)) (kV (fun M3079 hI3079 fr3079 v3078p => ?_))
                                    have hFm3079 := hFm3061.call fr3079 rfl
                                    have tr3080 := (fr3079 63 3 rfl)
                                    have tr3081 := (fr3079 63 4 rfl)
                                    have tr3082 := (fr3079 63 5 rfl)
                                    have tr3083 := (fr3079 63 9 rfl)
                                    have tr3084 := (fr3079 63 35 rfl)
                                    have tr3085 := (fr3079 63 42 rfl)
                                    have tr3086 := (fr3079 63 43 rfl)
                                    have tr3087 := rg_63_9 hI3079
                                    have hP3088 := PI.holdL v3060p (B0.fr (B0.fr (B0.fr hB fr2 rfl (fun _ => rfl)) fr3040 rfl (fun _ => rfl)) fr3061 rfl (fun _ => rfl)) (by omega) fr3079 v3078p.1 v3078p.2.1 v3078p.2.2
                                    refine s_aload_n kx_197_375 rfl ?_
                                    refine r_getR (k := 63) (f := 38) (k2 := 86) kx_197_376 kp_197_127 (tk_63 hT) kf_12_38 (by decide) (rq_63_38 hI3079) ?_
                                    refine s_iload_n kx_197_379 rfl ?_
                                    refine s_iconst (v := 0) kx_197_380 (by decide) ?_
                                    refine r_ast (k := 86) kx_197_381 (tk_86 hT) ⟨by omega, by omega⟩ hI3079 (ru_86 (by omega) (by omega)) (fun M3089 hI3089 u3089 => ?_)
                                    have hFm3089 := hFm3079.up u3089 rfl
                                    have tr3090 := (u3089.2 63 3 (by omega))
                                    have tr3091 := (u3089.2 63 4 (by omega))
                                    have tr3092 := (u3089.2 63 5 (by omega))
                                    have tr3093 := (u3089.2 63 9 (by omega))
                                    have tr3094 := (u3089.2 63 35 (by omega))
                                    have tr3095 := (u3089.2 63 42 (by omega))
                                    have tr3096 := (u3089.2 63 43 (by omega))
                                    have tr3097 := (u3089.2 63 45 (by omega))
                                    refine s_aload_n kx_197_382 rfl ?_
                                    refine r_getR (k := 63) (f := 39) (k2 := 87) kx_197_383 kp_197_130 (tk_63 hT) kf_12_39 (by decide) (rq_63_39 hI3089) ?_
                                    refine s_iload_n kx_197_386 rfl ?_
                                    refine s_iconst (v := 1) kx_197_387 (by decide) ?_
                                    refine r_bast (k := 87) kx_197_388 (tk_87 hT) ⟨by omega, by omega⟩ (by omega) hI3089 (ru_87 (by omega) (by omega)) (fun M3098 hI3098 u3098 => ?_)
                                    have hFm3098 := hFm3089.up u3098 rfl
                                    have tr3099 := (u3098.2 63 3 (by omega))
                                    have tr3100 := (u3098.2 63 4 (by omega))
                                    have tr3101 := (u3098.2 63 5 (by omega))
                                    have tr3102 := (u3098.2 63 9 (by omega))
                                    have tr3103 := (u3098.2 63 35 (by omega))
                                    have tr3104 := (u3098.2 63 42 (by omega))
                                    have tr3105 := (u3098.2 63 43 (by omega))
                                    have tr3106 := (u3098.2 63 45 (by omega))
                                    refine s_aload_n kx_197_389 rfl ?_
                                    refine s_callV2 (k := 63) (s1 := 1) (s2 := 0) (as := []) (rest := []) kx_197_390 kp_197_286 (Or.inl rfl) rfl (tk_63 hT) ki_180 kcl_180 rfl rfl (by decide) (m_180 (d := d) hT hI3098) (kV (fun M3108 hI3108 fr3108 v3107p => ?_))
                                    have hFm3108 := hFm3098.call fr3108 rfl
                                    have tr3109 := (fr3108 63 9 rfl)
                                    have tr3110 := (fr3108 63 35 rfl)
                                    have tr3111 := (fr3108 63 42 rfl)
                                    have tr3112 := (fr3108 63 43 rfl)
                                    have tr3113 := (fr3108 63 45 rfl)
                                    have tr3114 := rg_63_9 hI3108
                                    refine s_aload_n kx_197_393 rfl ?_
                                    refine s_iconst (v := 0) kx_197_394 (by decide) ?_
                                    refine r_put (k := 63) (f := 46) kx_197_395 kp_197_152 (tk_63 hT) kf_12_46 rfl (by decide) (by decide) hI3108 (ru_63_46 (by omega) (by omega)) (fun M3115 hI3115 u3115 => ?_)
                                    have hFm3115 := hFm3108.up u3115 rfl
                                    have tr3116 := (u3115.2 63 3 (by omega))
                                    have tr3117 := (u3115.2 63 4 (by omega))
                                    have tr3118 := (u3115.2 63 5 (by omega))
                                    have tr3119 := (u3115.2 63 9 (by omega))
                                    have tr3120 := (u3115.2 63 35 (by omega))
                                    have tr3121 := (u3115.2 63 42 (by omega))
                                    have tr3122 := (u3115.2 63 43 (by omega))
                                    have tr3123 := (u3115.2 63 45 (by omega))
                                    refine s_iconst (v := 1) kx_197_398 (by decide) ?_
                                    have hk3124 : M3115 63 9 = v3049 := ((u3115.2 63 9 (by omega)).trans ((fr3108 63 9 rfl).trans ((u3098.2 63 9 (by omega)).trans ((u3089.2 63 9 (by omega)).trans ((fr3079 63 9 rfl).trans ((fr3061 63 9 rfl).trans v3049e))))))
                                    exact s_iret kx_197_399 (Or.inr ⟨kq_197, by omega⟩) ⟨_, _, rfl, rfl, hI3115, hFm3115, ⟨by omega, by omega, (LXp.up (show LXp M3108 from v3107p.2) u3115 (by decide)), (by omega), (by omega), (Or.inr (Or.inr ⟨rfl, by omega, Or.inl ⟨u3115.1, PI.to7 (PI.fr (PI.fr (PI.begins1 (PI.phase hP3088 (Or.inr (by omega)) (by omega) u3089) (by omega) (by omega) u3098) fr3108 rfl) (Up.fr u3115) rfl) (by omega)⟩⟩))⟩⟩
                                  refine s_if_eq (t := 370) kx_197_362 (by decide) (fun hc3070 => ?_) (fun hc3070 => ?_)
                                  · have hJ3071 : Fr fS_197_j362 M3061 M3061 := Fr.refl
                                    refine s_bipush (v := 21) kx_197_370 (by decide) ?_
                                    exact cP.wk (lS1 rfl (lS1 rfl lS0)) (jn3074 21 (by omega) (by omega) (by omega))
                                  · have hJ3072 : Fr fS_197_j362 M3061 M3061 := Fr.refl
                                    refine s_bipush (v := 20) kx_197_365 (by decide) ?_
                                    refine s_goto (t := 372) kx_197_367 (by decide) ?_
                                    exact cP.wk (lS1 rfl (lS1 rfl lS0)) (jn3074 20 (by omega) (by omega) (by omega))
                                refine s_if_eq (t := 355) kx_197_348 (by decide) (fun hc3052 => ?_) (fun hc3052 => ?_)
                                · have hJ3053 : Fr fS_197_j348 M3040 M3040 := Fr.refl
                                  replace v3051p := v3051p.resolve_left (by omega)
                                  refine s_iconst (v := 1) kx_197_355 (by decide) ?_
                                  exact cP.wk (lS1 rfl (lS1 rfl (lS1 rfl lS0))) (jn3056 1 (by omega) (by omega) (by omega))
                                · have hJ3054 : Fr fS_197_j348 M3040 M3040 := Fr.refl
                                  replace v3051p := v3051p.resolve_right (by omega)
                                  refine s_iconst (v := 2) kx_197_351 (by decide) ?_
                                  refine s_goto (t := 356) kx_197_352 (by decide) ?_
                                  exact cP.wk (lS1 rfl (lS1 rfl (lS1 rfl lS0))) (jn3056 2 (by omega) (by omega) (by omega))
                              · refine s_iconst (v := 0) kx_197_334 (by decide) ?_
                                have hk3125 : M3040 63 4 = v3038 := ((fr3040 63 4 rfl).trans v3038e)
                                have hk3126 : M3040 63 9 = v3049 := v3049e
                                exact s_iret kx_197_335 (Or.inr ⟨kq_197, by omega⟩) ⟨_, _, rfl, rfl, hI3040, hFm3040, ⟨by omega, by omega, (LXp.fr (LXp.fr hX fr2 rfl) fr3040 rfl), (by omega), (by omega), (Or.inl (by omega))⟩⟩
                        · replace v2483p := v2483p.resolve_right (by omega)
                          refine s_aload_n kx_197_228 rfl ?_
                          refine s_iconst (v := 5) kx_197_229 (by decide) ?_
                          refine s_callV2 (k := 63) (s1 := 2) (s2 := 0) (as := [(0, 5)]) (rest := []) kx_197_230 kp_197_370 (Or.inl rfl) rfl (tk_63 hT) ki_191 kcl_191 rfl rfl (by decide) (m_191 (d := d) (least := 5) hT hI2 (PI.fr hP fr2 rfl) (by omega) (by omega) (by omega)) (kV (fun M3128 hI3128 fr3128 v3127p => ?_))
                          have hFm3128 := hFm2.call fr3128 rfl
                          have tr3129 := (fr3128 63 3 rfl)
                          have tr3130 := (fr3128 63 4 rfl)
                          have tr3131 := (fr3128 63 5 rfl)
                          have tr3132 := (fr3128 63 9 rfl)
                          have tr3133 := (fr3128 63 42 rfl)
                          have tr3134 := rg_63_9 hI3128
                          have hd3135 := PI.deep v3127p
                          have hs3136 := PI.small v3127p (rg_63_43 hI3128).2 (by decide)
                          have hs3136a := hs3136.1
                          have hs3136b := hs3136.2.1
                          have hs3136c := rg_63_45 hI3128
                          refine s_aload_n kx_197_233 rfl ?_
                          refine s_aload_n kx_197_234 rfl ?_
                          refine s_bipush (v := 60) kx_197_235 (by decide) ?_
                          refine s_callV2 (k := 63) (s1 := 2) (s2 := 1) (as := [(0, 60)]) (rest := [rf 63]) kx_197_237 kp_197_283 (Or.inl rfl) rfl (tk_63 hT) ki_181 kcl_181 rfl rfl (by decide) (m_181 (d := d + 1) (c := 60) hT hI3128) (kF (fun v3137 v3137p => ?_))
                          have jn3144 : ∀ (y3143 : Int), (17 ≤ y3143) → (y3143 ≤ 19) → (17 ≤ y3143 ∧ y3143 ≤ 19) → cP k_P xs Ln (d + 2) 197 264 [(0, rf 63), (1, (0, (v13 - 1)))] [(0, y3143), rf 63] (T, M3128) (qW T M fS_197_m 0 (fun v M1 => 0 ≤ v ∧ v ≤ 1 ∧ (LXp M1 ∧ M 63 4 ≤ M1 63 4 ∧ M 63 9 ≤ M1 63 9 ∧ (GOd M M1 c a v)))) := by
                            intro y3143 a3145 a3146 a3147
                            refine s_callV2 (k := 63) (s1 := 2) (s2 := 0) (as := [(0, y3143)]) (rest := []) kx_197_264 kp_197_364 (Or.inl rfl) rfl (tk_63 hT) ki_192 kcl_192 rfl rfl (by decide) (m_192 (d := d + 1) (op := y3143) hT hI3128 (by omega) (by omega)) (kV (fun M3149 hI3149 fr3149 v3148p => ?_))
                            have hFm3149 := hFm3128.call fr3149 rfl
                            have tr3150 := (fr3149 63 3 rfl)
                            have tr3151 := (fr3149 63 4 rfl)
                            have tr3152 := (fr3149 63 5 rfl)
                            have tr3153 := (fr3149 63 9 rfl)
                            have tr3154 := (fr3149 63 35 rfl)
                            have tr3155 := (fr3149 63 42 rfl)
                            have tr3156 := (fr3149 63 43 rfl)
                            have tr3157 := rg_63_9 hI3149
                            refine s_aload_n kx_197_267 rfl ?_
                            refine r_getR (k := 63) (f := 38) (k2 := 86) kx_197_268 kp_197_127 (tk_63 hT) kf_12_38 (by decide) (rq_63_38 hI3149) ?_
                            refine s_iload_n kx_197_271 rfl ?_
                            refine s_iconst (v := 1) kx_197_272 (by decide) ?_
                            refine r_ast (k := 86) kx_197_273 (tk_86 hT) ⟨by omega, by omega⟩ hI3149 (ru_86 (by omega) (by omega)) (fun M3159 hI3159 u3159 => ?_)
                            have hFm3159 := hFm3149.up u3159 rfl
                            have tr3160 := (u3159.2 63 3 (by omega))
                            have tr3161 := (u3159.2 63 4 (by omega))
                            have tr3162 := (u3159.2 63 5 (by omega))
                            have tr3163 := (u3159.2 63 9 (by omega))
                            have tr3164 := (u3159.2 63 35 (by omega))
                            have tr3165 := (u3159.2 63 42 (by omega))
                            have tr3166 := (u3159.2 63 43 (by omega))
                            have tr3167 := (u3159.2 63 45 (by omega))
                            have hP3168 := PI.holdC v3127p (f := (v13 - 1)) (by omega) ((fr3128 86 _ rfl).trans hph2358) (B0.fr (B0.fr hB fr2 rfl (fun _ => rfl)) fr3128 rfl (fun _ => rfl)) (by omega) fr3149 v3148p.1 v3148p.2.1 v3148p.2.2 u3159
                            refine s_aload_n kx_197_274 rfl ?_
                            refine s_callV2 (k := 63) (s1 := 1) (s2 := 0) (as := []) (rest := []) kx_197_275 kp_197_286 (Or.inl rfl) rfl (tk_63 hT) ki_180 kcl_180 rfl rfl (by decide) (m_180 (d := d) hT hI3159) (kV (fun M3170 hI3170 fr3170 v3169p => ?_))
                            have hFm3170 := hFm3159.call fr3170 rfl
                            have tr3171 := (fr3170 63 9 rfl)
                            have tr3172 := (fr3170 63 35 rfl)
                            have tr3173 := (fr3170 63 42 rfl)
                            have tr3174 := (fr3170 63 43 rfl)
                            have tr3175 := (fr3170 63 45 rfl)
                            have tr3176 := rg_63_9 hI3170
                            refine s_aload_n kx_197_278 rfl ?_
                            refine s_iconst (v := 0) kx_197_279 (by decide) ?_
                            refine r_put (k := 63) (f := 46) kx_197_280 kp_197_152 (tk_63 hT) kf_12_46 rfl (by decide) (by decide) hI3170 (ru_63_46 (by omega) (by omega)) (fun M3177 hI3177 u3177 => ?_)
                            have hFm3177 := hFm3170.up u3177 rfl
                            have tr3178 := (u3177.2 63 3 (by omega))
                            have tr3179 := (u3177.2 63 4 (by omega))
                            have tr3180 := (u3177.2 63 5 (by omega))
                            have tr3181 := (u3177.2 63 9 (by omega))
                            have tr3182 := (u3177.2 63 35 (by omega))
                            have tr3183 := (u3177.2 63 42 (by omega))
                            have tr3184 := (u3177.2 63 43 (by omega))
                            have tr3185 := (u3177.2 63 45 (by omega))
                            refine s_iconst (v := 1) kx_197_283 (by decide) ?_
                            have hk3186 : M3177 63 9 = v11 := ((u3177.2 63 9 (by omega)).trans ((fr3170 63 9 rfl).trans ((u3159.2 63 9 (by omega)).trans ((fr3149 63 9 rfl).trans ((fr3128 63 9 rfl).trans v11e)))))
                            exact s_iret kx_197_284 (Or.inr ⟨kq_197, by omega⟩) ⟨_, _, rfl, rfl, hI3177, hFm3177, ⟨by omega, by omega, (LXp.up (show LXp M3170 from v3169p.2) u3177 (by decide)), (by omega), (by omega), (Or.inr (Or.inr ⟨rfl, by omega, Or.inl ⟨u3177.1, PI.to7 (PI.fr (PI.fr hP3168 fr3170 rfl) (Up.fr u3177) rfl) (by omega)⟩⟩))⟩⟩
                          refine s_if_eq (t := 248) kx_197_240 (by decide) (fun hc3138 => ?_) (fun hc3138 => ?_)
                          · have hJ3139 : Fr fS_197_j240 M3128 M3128 := Fr.refl
                            replace v3137p := v3137p.resolve_left (by omega)
                            refine s_aload_n kx_197_248 rfl ?_
                            refine s_bipush (v := 62) kx_197_249 (by decide) ?_
                            refine s_callV2 (k := 63) (s1 := 2) (s2 := 1) (as := [(0, 62)]) (rest := [rf 63]) kx_197_251 kp_197_283 (Or.inl rfl) rfl (tk_63 hT) ki_181 kcl_181 rfl rfl (by decide) (m_181 (d := d + 1) (c := 62) hT hI3128) (kF (fun v3140 v3140p => ?_))
                            refine s_if_eq (t := 262) kx_197_254 (by decide) (fun hc3141 => ?_) (fun hc3141 => ?_)
                            · replace v3140p := v3140p.resolve_left (by omega)
                              refine s_bipush (v := 19) kx_197_262 (by decide) ?_
                              exact cP.wk (lS1 rfl (lS1 rfl lS0)) (jn3144 19 (by omega) (by omega) (by omega))
                            · replace v3140p := v3140p.resolve_right (by omega)
                              refine s_bipush (v := 18) kx_197_257 (by decide) ?_
                              refine s_goto (t := 264) kx_197_259 (by decide) ?_
                              exact cP.wk (lS1 rfl (lS1 rfl lS0)) (jn3144 18 (by omega) (by omega) (by omega))
                          · have hJ3142 : Fr fS_197_j240 M3128 M3128 := Fr.refl
                            replace v3137p := v3137p.resolve_right (by omega)
                            refine s_bipush (v := 17) kx_197_243 (by decide) ?_
                            refine s_goto (t := 264) kx_197_245 (by decide) ?_
                            exact cP.wk (lS1 rfl (lS1 rfl lS0)) (jn3144 17 (by omega) (by omega) (by omega))
              · replace v1325p := v1325p.resolve_right (by omega)
                refine s_aload_n kx_197_87 rfl ?_
                refine s_aload_n kx_197_88 rfl ?_
                refine s_bipush (v := 43) kx_197_89 (by decide) ?_
                refine s_callV2 (k := 63) (s1 := 2) (s2 := 1) (as := [(0, 43)]) (rest := [rf 63]) kx_197_91 kp_197_283 (Or.inl rfl) rfl (tk_63 hT) ki_181 kcl_181 rfl rfl (by decide) (m_181 (d := d + 1) (c := 43) hT hI2) (kF (fun v3187 v3187p => ?_))
                have jn3194 : ∀ (y3193 : Int), (5 ≤ y3193) → (y3193 ≤ 6) → ((y3193 = 5 ∧ 1 ≤ isS M2 43 + isS M2 45) ∨ (y3193 = 6 ∧ isS M2 43 = 0 ∧ isS M2 45 = 0)) → cP k_P xs Ln (d + 2) 197 112 [(0, rf 63)] [(0, y3193), rf 63] (T, M2) (qW T M fS_197_m 0 (fun v M1 => 0 ≤ v ∧ v ≤ 1 ∧ (LXp M1 ∧ M 63 4 ≤ M1 63 4 ∧ M 63 9 ≤ M1 63 9 ∧ (GOd M M1 c a v)))) := by
                  intro y3193 a3195 a3196 a3197
                  refine s_callV2 (k := 63) (s1 := 2) (s2 := 0) (as := [(0, y3193)]) (rest := []) kx_197_112 kp_197_370 (Or.inl rfl) rfl (tk_63 hT) ki_191 kcl_191 rfl rfl (by decide) (m_191 (d := d) (least := y3193) hT hI2 (PI.fr hP fr2 rfl) (by omega) (by omega) (by omega)) (kV (fun M3199 hI3199 fr3199 v3198p => ?_))
                  have hFm3199 := hFm2.call fr3199 rfl
                  have tr3200 := (fr3199 63 3 rfl)
                  have tr3201 := (fr3199 63 4 rfl)
                  have tr3202 := (fr3199 63 5 rfl)
                  have tr3203 := (fr3199 63 9 rfl)
                  have tr3204 := (fr3199 63 42 rfl)
                  have tr3205 := rg_63_9 hI3199
                  have hd3206 := PI.deep v3198p
                  have hs3207 := PI.small v3198p (rg_63_43 hI3199).2 (by decide)
                  have hs3207a := hs3207.1
                  have hs3207b := hs3207.2.1
                  have hs3207c := rg_63_45 hI3199
                  have hi3208 := isS_fr (c := 43) fr3199 rfl rfl
                  have hi3209 := isS_fr (c := 45) fr3199 rfl rfl
                  refine s_aload_n kx_197_115 rfl ?_
                  refine s_aload_n kx_197_116 rfl ?_
                  refine s_bipush (v := 43) kx_197_117 (by decide) ?_
                  refine s_callV2 (k := 63) (s1 := 2) (s2 := 1) (as := [(0, 43)]) (rest := [rf 63]) kx_197_119 kp_197_283 (Or.inl rfl) rfl (tk_63 hT) ki_181 kcl_181 rfl rfl (by decide) (m_181 (d := d + 1) (c := 43) hT hI3199) (kF (fun v3210 v3210p => ?_))
                  have jn3221 : ∀ (y3220 : Int), (10 ≤ y3220) → (y3220 ≤ 14) → ((y3220 ≤ 11 ∧ 1 ≤ isS M3199 43 + isS M3199 45) ∨ (12 ≤ y3220 ∧ isS M3199 43 = 0 ∧ isS M3199 45 = 0)) → cP k_P xs Ln (d + 2) 197 174 [(0, rf 63)] [(0, y3220), rf 63] (T, M3199) (qW T M fS_197_m 0 (fun v M1 => 0 ≤ v ∧ v ≤ 1 ∧ (LXp M1 ∧ M 63 4 ≤ M1 63 4 ∧ M 63 9 ≤ M1 63 9 ∧ (GOd M M1 c a v)))) := by
                    intro y3220 a3222 a3223 a3224
                    refine s_callV2 (k := 63) (s1 := 2) (s2 := 0) (as := [(0, y3220)]) (rest := []) kx_197_174 kp_197_364 (Or.inl rfl) rfl (tk_63 hT) ki_192 kcl_192 rfl rfl (by decide) (m_192 (d := d + 1) (op := y3220) hT hI3199 (by omega) (by omega)) (kV (fun M3226 hI3226 fr3226 v3225p => ?_))
                    have hFm3226 := hFm3199.call fr3226 rfl
                    have tr3227 := (fr3226 63 3 rfl)
                    have tr3228 := (fr3226 63 4 rfl)
                    have tr3229 := (fr3226 63 5 rfl)
                    have tr3230 := (fr3226 63 9 rfl)
                    have tr3231 := (fr3226 63 35 rfl)
                    have tr3232 := (fr3226 63 42 rfl)
                    have tr3233 := (fr3226 63 43 rfl)
                    have tr3234 := rg_63_9 hI3226
                    have hP3235 := PI.holdA v3198p (B0.fr (B0.fr hB fr2 rfl (fun _ => rfl)) fr3199 rfl (fun _ => rfl)) (by omega) fr3226 v3225p.1 v3225p.2.1 v3225p.2.2
                    refine s_aload_n kx_197_177 rfl ?_
                    refine s_callV2 (k := 63) (s1 := 1) (s2 := 0) (as := []) (rest := []) kx_197_178 kp_197_286 (Or.inl rfl) rfl (tk_63 hT) ki_180 kcl_180 rfl rfl (by decide) (m_180 (d := d) hT hI3226) (kV (fun M3237 hI3237 fr3237 v3236p => ?_))
                    have hFm3237 := hFm3226.call fr3237 rfl
                    have tr3238 := (fr3237 63 9 rfl)
                    have tr3239 := (fr3237 63 35 rfl)
                    have tr3240 := (fr3237 63 42 rfl)
                    have tr3241 := (fr3237 63 43 rfl)
                    have tr3242 := (fr3237 63 45 rfl)
                    have tr3243 := rg_63_9 hI3237
                    refine s_aload_n kx_197_181 rfl ?_
                    refine s_iconst (v := 0) kx_197_182 (by decide) ?_
                    refine r_put (k := 63) (f := 46) kx_197_183 kp_197_152 (tk_63 hT) kf_12_46 rfl (by decide) (by decide) hI3237 (ru_63_46 (by omega) (by omega)) (fun M3244 hI3244 u3244 => ?_)
                    have hFm3244 := hFm3237.up u3244 rfl
                    have tr3245 := (u3244.2 63 3 (by omega))
                    have tr3246 := (u3244.2 63 4 (by omega))
                    have tr3247 := (u3244.2 63 5 (by omega))
                    have tr3248 := (u3244.2 63 9 (by omega))
                    have tr3249 := (u3244.2 63 35 (by omega))
                    have tr3250 := (u3244.2 63 42 (by omega))
                    have tr3251 := (u3244.2 63 43 (by omega))
                    have tr3252 := (u3244.2 63 45 (by omega))
                    refine s_iconst (v := 1) kx_197_186 (by decide) ?_
                    have hk3253 : M3244 63 9 = v11 := ((u3244.2 63 9 (by omega)).trans ((fr3237 63 9 rfl).trans ((fr3226 63 9 rfl).trans ((fr3199 63 9 rfl).trans v11e))))
                    exact s_iret kx_197_187 (Or.inr ⟨kq_197, by omega⟩) ⟨_, _, rfl, rfl, hI3244, hFm3244, ⟨by omega, by omega, (LXp.up (show LXp M3237 from v3236p.2) u3244 (by decide)), (by omega), (by omega), (Or.inr (Or.inr ⟨rfl, by omega, Or.inl ⟨u3244.1, PI.to7 (PI.fr (PI.fr hP3235 fr3237 rfl) (Up.fr u3244) rfl) (by omega)⟩⟩))⟩⟩
                  refine s_if_eq (t := 130) kx_197_122 (by decide) (fun hc3211 => ?_) (fun hc3211 => ?_)
                  · have hJ3212 : Fr fS_197_j122 M3199 M3199 := Fr.refl
                    replace v3210p := v3210p.resolve_left (by omega)
                    refine s_aload_n kx_197_130 rfl ?_
                    refine s_bipush (v := 45) kx_197_131 (by decide) ?_
                    refine s_callV2 (k := 63) (s1 := 2) (s2 := 1) (as := [(0, 45)]) (rest := [rf 63]) kx_197_133 kp_197_283 (Or.inl rfl) rfl (tk_63 hT) ki_181 kcl_181 rfl rfl (by decide) (m_181 (d := d + 1) (c := 45) hT hI3199) (kF (fun v3213 v3213p => ?_))
                    refine s_if_eq (t := 144) kx_197_136 (by decide) (fun hc3214 => ?_) (fun hc3214 => ?_)
                    · replace v3213p := v3213p.resolve_left (by omega)
                      refine s_aload_n kx_197_144 rfl ?_
                      refine s_bipush (v := 42) kx_197_145 (by decide) ?_
                      refine s_callV2 (k := 63) (s1 := 2) (s2 := 1) (as := [(0, 42)]) (rest := [rf 63]) kx_197_147 kp_197_283 (Or.inl rfl) rfl (tk_63 hT) ki_181 kcl_181 rfl rfl (by decide) (m_181 (d := d + 1) (c := 42) hT hI3199) (kF (fun v3215 v3215p => ?_))
                      refine s_if_eq (t := 158) kx_197_150 (by decide) (fun hc3216 => ?_) (fun hc3216 => ?_)
                      · replace v3215p := v3215p.resolve_left (by omega)
                        refine s_aload_n kx_197_158 rfl ?_
                        refine s_bipush (v := 47) kx_197_159 (by decide) ?_
                        refine s_callV2 (k := 63) (s1 := 2) (s2 := 1) (as := [(0, 47)]) (rest := [rf 63]) kx_197_161 kp_197_283 (Or.inl rfl) rfl (tk_63 hT) ki_181 kcl_181 rfl rfl (by decide) (m_181 (d := d + 1) (c := 47) hT hI3199) (kF (fun v3217 v3217p => ?_))
                        refine s_if_eq (t := 172) kx_197_164 (by decide) (fun hc3218 => ?_) (fun hc3218 => ?_)
                        · replace v3217p := v3217p.resolve_left (by omega)
                          refine s_bipush (v := 14) kx_197_172 (by decide) ?_
                          exact cP.wk (lS1 rfl lS0) (jn3221 14 (by omega) (by omega) (by omega))
                        · replace v3217p := v3217p.resolve_right (by omega)
                          refine s_bipush (v := 13) kx_197_167 (by decide) ?_
                          refine s_goto (t := 174) kx_197_169 (by decide) ?_
                          exact cP.wk (lS1 rfl lS0) (jn3221 13 (by omega) (by omega) (by omega))
                      · replace v3215p := v3215p.resolve_right (by omega)
                        refine s_bipush (v := 12) kx_197_153 (by decide) ?_
                        refine s_goto (t := 174) kx_197_155 (by decide) ?_
                        exact cP.wk (lS1 rfl lS0) (jn3221 12 (by omega) (by omega) (by omega))
                    · replace v3213p := v3213p.resolve_right (by omega)
                      refine s_bipush (v := 11) kx_197_139 (by decide) ?_
                      refine s_goto (t := 174) kx_197_141 (by decide) ?_
                      exact cP.wk (lS1 rfl lS0) (jn3221 11 (by omega) (by omega) (by omega))
                  · have hJ3219 : Fr fS_197_j122 M3199 M3199 := Fr.refl
                    replace v3210p := v3210p.resolve_right (by omega)
                    refine s_bipush (v := 10) kx_197_125 (by decide) ?_
                    refine s_goto (t := 174) kx_197_127 (by decide) ?_
                    exact cP.wk (lS1 rfl lS0) (jn3221 10 (by omega) (by omega) (by omega))
                refine s_if_ne (t := 106) kx_197_94 (by decide) (fun hc3188 => ?_) (fun hc3188 => ?_)
                · have hJ3189 : Fr fS_197_j94 M2 M2 := Fr.refl
                  replace v3187p := v3187p.resolve_right (by omega)
                  refine s_iconst (v := 5) kx_197_106 (by decide) ?_
                  refine s_goto (t := 112) kx_197_107 (by decide) ?_
                  exact cP.wk (lS1 rfl lS0) (jn3194 5 (by omega) (by omega) (by omega))
                · have hJ3190 : Fr fS_197_j94 M2 M2 := Fr.refl
                  replace v3187p := v3187p.resolve_left (by omega)
                  refine s_aload_n kx_197_97 rfl ?_
                  refine s_bipush (v := 45) kx_197_98 (by decide) ?_
                  refine s_callV2 (k := 63) (s1 := 2) (s2 := 1) (as := [(0, 45)]) (rest := [rf 63]) kx_197_100 kp_197_283 (Or.inl rfl) rfl (tk_63 hT) ki_181 kcl_181 rfl rfl (by decide) (m_181 (d := d + 1) (c := 45) hT hI2) (kF (fun v3191 v3191p => ?_))
                  refine s_if_eq (t := 110) kx_197_103 (by decide) (fun hc3192 => ?_) (fun hc3192 => ?_)
                  · replace v3191p := v3191p.resolve_left (by omega)
                    refine s_bipush (v := 6) kx_197_110 (by decide) ?_
                    exact cP.wk (lS1 rfl lS0) (jn3194 6 (by omega) (by omega) (by omega))
                  · replace v3191p := v3191p.resolve_right (by omega)
                    refine s_iconst (v := 5) kx_197_106 (by decide) ?_
                    refine s_goto (t := 112) kx_197_107 (by decide) ?_
                    exact cP.wk (lS1 rfl lS0) (jn3194 5 (by omega) (by omega) (by omega))
  · refine s_iconst (v := 0) kx_197_11 (by decide) ?_
    have hk3254 : M2 63 9 = v11 := v11e
    exact s_iret kx_197_12 (Or.inr ⟨kq_197, by omega⟩) ⟨_, _, rfl, rfl, hI2, hFm2, ⟨by omega, by omega, (LXp.fr hX fr2 rfl), (by omega), (by omega), (Or.inl (by omega))⟩⟩
