theorem dL_hangs_302 : decode cL_hangs 302 = .ok (.iload 15, 2) := by decide +kernel
theorem dL_hangs_304 : decode cL_hangs 304 = .ok (.bipush 61, 2) := by decide +kernel
theorem dL_hangs_306 : decode cL_hangs 306 = .ok (.if_icmp .ge 218, 3) := by decide +kernel
theorem dL_hangs_309 : decode cL_hangs 309 = .ok (.iload 16, 2) := by decide +kernel
theorem dL_hangs_311 : decode cL_hangs 311 = .ok (.iload 13, 2) := by decide +kernel
theorem dL_hangs_313 : decode cL_hangs 313 = .ok (.iload 14, 2) := by decide +kernel
theorem dL_hangs_315 : decode cL_hangs 315 = .ok (.isub, 1) := by decide +kernel
theorem dL_hangs_316 : decode cL_hangs 316 = .ok (.iload 15, 2) := by decide +kernel
theorem dL_hangs_318 : decode cL_hangs 318 = .ok (.isub, 1) := by decide +kernel
theorem dL_hangs_319 : decode cL_hangs 319 = .ok (.if_icmp .ne 205, 3) := by decide +kernel
theorem dL_hangs_322 : decode cL_hangs 322 = .ok (.aload_n 0, 1) := by decide +kernel
theorem dL_hangs_323 : decode cL_hangs 323 = .ok (.iload 12, 2) := by decide +kernel
theorem dL_hangs_325 : decode cL_hangs 325 = .ok (.iload 5, 2) := by decide +kernel
theorem dL_hangs_327 : decode cL_hangs 327 = .ok (.invokestatic 268, 3) := by decide +kernel
theorem dL_hangs_330 : decode cL_hangs 330 = .ok (.bipush 100, 2) := by decide +kernel
theorem dL_hangs_332 : decode cL_hangs 332 = .ok (.iload 14, 2) := by decide +kernel
theorem dL_hangs_334 : decode cL_hangs 334 = .ok (.iload 15, 2) := by decide +kernel
theorem dL_hangs_336 : decode cL_hangs 336 = .ok (.iadd, 1) := by decide +kernel
theorem dL_hangs_337 : decode cL_hangs 337 = .ok (.imul, 1) := by decide +kernel
theorem dL_hangs_338 : decode cL_hangs 338 = .ok (.iload 13, 2) := by decide +kernel
theorem dL_hangs_340 : decode cL_hangs 340 = .ok (.idiv, 1) := by decide +kernel
theorem dL_hangs_341 : decode cL_hangs 341 = .ok (.if_icmp .ne 183, 3) := by decide +kernel
theorem dL_hangs_344 : decode cL_hangs 344 = .ok (.iload 18, 2) := by decide +kernel
theorem dL_hangs_346 : decode cL_hangs 346 = .ok (.ifCond .lt 7, 3) := by decide +kernel
theorem dL_hangs_349 : decode cL_hangs 349 = .ok (.iconst 1, 1) := by decide +kernel
theorem dL_hangs_350 : decode cL_hangs 350 = .ok (.goto 4, 3) := by decide +kernel
theorem dL_hangs_353 : decode cL_hangs 353 = .ok (.iconst 0, 1) := by decide +kernel
theorem dL_hangs_354 : decode cL_hangs 354 = .ok (.iload 17, 2) := by decide +kernel
theorem dL_hangs_356 : decode cL_hangs 356 = .ok (.iconst 2, 1) := by decide +kernel
theorem dL_hangs_357 : decode cL_hangs 357 = .ok (.if_icmp .ne 7, 3) := by decide +kernel
theorem dL_hangs_360 : decode cL_hangs 360 = .ok (.iconst 1, 1) := by decide +kernel
theorem dL_hangs_361 : decode cL_hangs 361 = .ok (.goto 4, 3) := by decide +kernel
theorem dL_hangs_364 : decode cL_hangs 364 = .ok (.iconst 0, 1) := by decide +kernel
theorem dL_hangs_365 : decode cL_hangs 365 = .ok (.if_icmp .ne 159, 3) := by decide +kernel
theorem dL_hangs_368 : decode cL_hangs 368 = .ok (.iload 18, 2) := by decide +kernel
theorem dL_hangs_370 : decode cL_hangs 370 = .ok (.ifCond .lt 17, 3) := by decide +kernel
theorem dL_hangs_373 : decode cL_hangs 373 = .ok (.iload 16, 2) := by decide +kernel
theorem dL_hangs_375 : decode cL_hangs 375 = .ok (.ifCond .lt 149, 3) := by decide +kernel
theorem dL_hangs_378 : decode cL_hangs 378 = .ok (.iload 18, 2) := by decide +kernel
theorem dL_hangs_380 : decode cL_hangs 380 = .ok (.aload_n 0, 1) := by decide +kernel
theorem dL_hangs_381 : decode cL_hangs 381 = .ok (.invokevirtual 243, 3) := by decide +kernel
theorem dL_hangs_384 : decode cL_hangs 384 = .ok (.if_icmp .gt 140, 3) := by decide +kernel
theorem dL_hangs_387 : decode cL_hangs 387 = .ok (.iload 16, 2) := by decide +kernel
theorem dL_hangs_389 : decode cL_hangs 389 = .ok (.ifCond .lt 7, 3) := by decide +kernel
theorem dL_hangs_392 : decode cL_hangs 392 = .ok (.iconst 1, 1) := by decide +kernel
theorem dL_hangs_393 : decode cL_hangs 393 = .ok (.goto 4, 3) := by decide +kernel
theorem dL_hangs_396 : decode cL_hangs 396 = .ok (.iconst 0, 1) := by decide +kernel
theorem dL_hangs_397 : decode cL_hangs 397 = .ok (.iload 19, 2) := by decide +kernel
theorem dL_hangs_399 : decode cL_hangs 399 = .ok (.ifCond .ne 7, 3) := by decide +kernel
theorem dL_hangs_402 : decode cL_hangs 402 = .ok (.iconst 1, 1) := by decide +kernel
theorem dL_hangs_403 : decode cL_hangs 403 = .ok (.goto 4, 3) := by decide +kernel
theorem dL_hangs_406 : decode cL_hangs 406 = .ok (.iconst 0, 1) := by decide +kernel
theorem dL_hangs_407 : decode cL_hangs 407 = .ok (.if_icmp .ne 117, 3) := by decide +kernel
theorem dL_hangs_410 : decode cL_hangs 410 = .ok (.aload_n 0, 1) := by decide +kernel
theorem dL_hangs_411 : decode cL_hangs 411 = .ok (.iload 12, 2) := by decide +kernel
theorem dL_hangs_413 : decode cL_hangs 413 = .ok (.iload 5, 2) := by decide +kernel
theorem dL_hangs_415 : decode cL_hangs 415 = .ok (.invokestatic 270, 3) := by decide +kernel
theorem dL_hangs_418 : decode cL_hangs 418 = .ok (.iconst 1, 1) := by decide +kernel
theorem dL_hangs_419 : decode cL_hangs 419 = .ok (.if_icmp .ne 7, 3) := by decide +kernel
theorem dL_hangs_422 : decode cL_hangs 422 = .ok (.iconst 1, 1) := by decide +kernel
theorem dL_hangs_423 : decode cL_hangs 423 = .ok (.goto 4, 3) := by decide +kernel
theorem dL_hangs_426 : decode cL_hangs 426 = .ok (.iconst 0, 1) := by decide +kernel
theorem dL_hangs_427 : decode cL_hangs 427 = .ok (.iload 16, 2) := by decide +kernel
theorem dL_hangs_429 : decode cL_hangs 429 = .ok (.ifCond .lt 7, 3) := by decide +kernel
theorem dL_hangs_432 : decode cL_hangs 432 = .ok (.iconst 1, 1) := by decide +kernel
theorem dL_hangs_433 : decode cL_hangs 433 = .ok (.goto 4, 3) := by decide +kernel
theorem dL_hangs_436 : decode cL_hangs 436 = .ok (.iconst 0, 1) := by decide +kernel
theorem dL_hangs_437 : decode cL_hangs 437 = .ok (.if_icmp .ne 87, 3) := by decide +kernel
theorem dL_hangs_440 : decode cL_hangs 440 = .ok (.iload 17, 2) := by decide +kernel
theorem dL_hangs_442 : decode cL_hangs 442 = .ok (.ifCond .lt 82, 3) := by decide +kernel
theorem dL_hangs_445 : decode cL_hangs 445 = .ok (.iload 17, 2) := by decide +kernel
theorem dL_hangs_447 : decode cL_hangs 447 = .ok (.iconst 5, 1) := by decide +kernel
theorem dL_hangs_448 : decode cL_hangs 448 = .ok (.if_icmp .ge 76, 3) := by decide +kernel
theorem dL_hangs_451 : decode cL_hangs 451 = .ok (.aload_n 0, 1) := by decide +kernel
theorem dL_hangs_452 : decode cL_hangs 452 = .ok (.iload 12, 2) := by decide +kernel
theorem dL_hangs_454 : decode cL_hangs 454 = .ok (.iload 5, 2) := by decide +kernel
theorem dL_hangs_456 : decode cL_hangs 456 = .ok (.invokestatic 272, 3) := by decide +kernel
theorem dL_hangs_459 : decode cL_hangs 459 = .ok (.iload 15, 2) := by decide +kernel
theorem dL_hangs_461 : decode cL_hangs 461 = .ok (.ifCond .le 7, 3) := by decide +kernel
theorem dL_hangs_464 : decode cL_hangs 464 = .ok (.iconst 1, 1) := by decide +kernel
theorem dL_hangs_465 : decode cL_hangs 465 = .ok (.goto 4, 3) := by decide +kernel
theorem dL_hangs_468 : decode cL_hangs 468 = .ok (.iconst 0, 1) := by decide +kernel
theorem dL_hangs_469 : decode cL_hangs 469 = .ok (.if_icmp .ne 55, 3) := by decide +kernel
theorem dL_hangs_472 : decode cL_hangs 472 = .ok (.aload_n 0, 1) := by decide +kernel
theorem dL_hangs_473 : decode cL_hangs 473 = .ok (.iload 12, 2) := by decide +kernel
theorem dL_hangs_475 : decode cL_hangs 475 = .ok (.iload 5, 2) := by decide +kernel
theorem dL_hangs_477 : decode cL_hangs 477 = .ok (.invokestatic 274, 3) := by decide +kernel
theorem dL_hangs_480 : decode cL_hangs 480 = .ok (.iload 18, 2) := by decide +kernel
theorem dL_hangs_482 : decode cL_hangs 482 = .ok (.ifCond .lt 7, 3) := by decide +kernel
theorem dL_hangs_485 : decode cL_hangs 485 = .ok (.iconst 1, 1) := by decide +kernel
theorem dL_hangs_486 : decode cL_hangs 486 = .ok (.goto 4, 3) := by decide +kernel
theorem dL_hangs_489 : decode cL_hangs 489 = .ok (.iconst 0, 1) := by decide +kernel
theorem dL_hangs_490 : decode cL_hangs 490 = .ok (.if_icmp .ne 34, 3) := by decide +kernel
theorem dL_hangs_493 : decode cL_hangs 493 = .ok (.aload_n 0, 1) := by decide +kernel
theorem dL_hangs_494 : decode cL_hangs 494 = .ok (.iload 12, 2) := by decide +kernel
theorem dL_hangs_496 : decode cL_hangs 496 = .ok (.iload 5, 2) := by decide +kernel
theorem dL_hangs_498 : decode cL_hangs 498 = .ok (.invokestatic 276, 3) := by decide +kernel
theorem dL_hangs_501 : decode cL_hangs 501 = .ok (.ifCond .lt 23, 3) := by decide +kernel
theorem dL_hangs_504 : decode cL_hangs 504 = .ok (.iload 15, 2) := by decide +kernel
theorem dL_hangs_506 : decode cL_hangs 506 = .ok (.ifCond .gt 14, 3) := by decide +kernel
theorem dL_hangs_509 : decode cL_hangs 509 = .ok (.aload_n 0, 1) := by decide +kernel
theorem dL_hangs_510 : decode cL_hangs 510 = .ok (.iload 12, 2) := by decide +kernel
theorem dL_hangs_512 : decode cL_hangs 512 = .ok (.iload 5, 2) := by decide +kernel
theorem dL_hangs_514 : decode cL_hangs 514 = .ok (.invokestatic 276, 3) := by decide +kernel
theorem dL_hangs_517 : decode cL_hangs 517 = .ok (.ifCond .ne 7, 3) := by decide +kernel
theorem dL_hangs_520 : decode cL_hangs 520 = .ok (.iconst 1, 1) := by decide +kernel
theorem dL_hangs_521 : decode cL_hangs 521 = .ok (.goto 4, 3) := by decide +kernel
theorem dL_hangs_524 : decode cL_hangs 524 = .ok (.iconst 0, 1) := by decide +kernel
theorem dL_hangs_525 : decode cL_hangs 525 = .ok (.istore_n 3, 1) := by decide +kernel
theorem dL_hangs_526 : decode cL_hangs 526 = .ok (.iload 6, 2) := by decide +kernel
theorem dL_hangs_528 : decode cL_hangs 528 = .ok (.aload_n 0, 1) := by decide +kernel
theorem dL_hangs_529 : decode cL_hangs 529 = .ok (.iload 12, 2) := by decide +kernel
theorem dL_hangs_531 : decode cL_hangs 531 = .ok (.iload 5, 2) := by decide +kernel
theorem dL_hangs_533 : decode cL_hangs 533 = .ok (.invokestatic 276, 3) := by decide +kernel
theorem dL_hangs_536 : decode cL_hangs 536 = .ok (.iadd, 1) := by decide +kernel
theorem dL_hangs_537 : decode cL_hangs 537 = .ok (.istore 6, 2) := by decide +kernel
theorem dL_hangs_539 : decode cL_hangs 539 = .ok (.iload 7, 2) := by decide +kernel
theorem dL_hangs_541 : decode cL_hangs 541 = .ok (.iload 17, 2) := by decide +kernel
theorem dL_hangs_543 : decode cL_hangs 543 = .ok (.ifCond .eq 9, 3) := by decide +kernel
theorem dL_hangs_546 : decode cL_hangs 546 = .ok (.iload 17, 2) := by decide +kernel
theorem dL_hangs_548 : decode cL_hangs 548 = .ok (.iconst 4, 1) := by decide +kernel
theorem dL_hangs_549 : decode cL_hangs 549 = .ok (.if_icmp .ne 11, 3) := by decide +kernel
theorem dL_hangs_552 : decode cL_hangs 552 = .ok (.iload 15, 2) := by decide +kernel
theorem dL_hangs_554 : decode cL_hangs 554 = .ok (.iload 14, 2) := by decide +kernel
theorem dL_hangs_556 : decode cL_hangs 556 = .ok (.iadd, 1) := by decide +kernel
theorem dL_hangs_557 : decode cL_hangs 557 = .ok (.goto 4, 3) := by decide +kernel
theorem dL_hangs_560 : decode cL_hangs 560 = .ok (.iconst 0, 1) := by decide +kernel
theorem dL_hangs_561 : decode cL_hangs 561 = .ok (.iadd, 1) := by decide +kernel
theorem dL_hangs_562 : decode cL_hangs 562 = .ok (.istore 7, 2) := by decide +kernel
theorem dL_hangs_564 : decode cL_hangs 564 = .ok (.iload 8, 2) := by decide +kernel
theorem dL_hangs_566 : decode cL_hangs 566 = .ok (.iload 15, 2) := by decide +kernel
theorem dL_hangs_568 : decode cL_hangs 568 = .ok (.ifCond .le 12, 3) := by decide +kernel
theorem dL_hangs_571 : decode cL_hangs 571 = .ok (.iload 16, 2) := by decide +kernel
theorem dL_hangs_573 : decode cL_hangs 573 = .ok (.ifCond .ge 7, 3) := by decide +kernel
theorem dL_hangs_576 : decode cL_hangs 576 = .ok (.iconst 1, 1) := by decide +kernel
theorem dL_hangs_577 : decode cL_hangs 577 = .ok (.goto 4, 3) := by decide +kernel
theorem dL_hangs_580 : decode cL_hangs 580 = .ok (.iconst 0, 1) := by decide +kernel
theorem dL_hangs_581 : decode cL_hangs 581 = .ok (.iadd, 1) := by decide +kernel
theorem dL_hangs_582 : decode cL_hangs 582 = .ok (.istore 8, 2) := by decide +kernel
theorem dL_hangs_584 : decode cL_hangs 584 = .ok (.iload 9, 2) := by decide +kernel
theorem dL_hangs_586 : decode cL_hangs 586 = .ok (.iload 18, 2) := by decide +kernel
theorem dL_hangs_588 : decode cL_hangs 588 = .ok (.ifCond .lt 7, 3) := by decide +kernel
theorem dL_hangs_591 : decode cL_hangs 591 = .ok (.iconst 1, 1) := by decide +kernel
theorem dL_hangs_592 : decode cL_hangs 592 = .ok (.goto 4, 3) := by decide +kernel
theorem dL_hangs_595 : decode cL_hangs 595 = .ok (.iconst 0, 1) := by decide +kernel
theorem dL_hangs_596 : decode cL_hangs 596 = .ok (.iadd, 1) := by decide +kernel
theorem dL_hangs_597 : decode cL_hangs 597 = .ok (.istore 9, 2) := by decide +kernel
theorem dL_hangs_599 : decode cL_hangs 599 = .ok (.iload 11, 2) := by decide +kernel
theorem dL_hangs_601 : decode cL_hangs 601 = .ok (.iload 18, 2) := by decide +kernel
theorem dL_hangs_603 : decode cL_hangs 603 = .ok (.ifCond .lt 11, 3) := by decide +kernel
