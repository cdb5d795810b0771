theorem dL_acts_338 : decode cL_acts 338 = .ok (.iload 5, 2) := by decide +kernel
theorem dL_acts_340 : decode cL_acts 340 = .ok (.invokestatic 221, 3) := by decide +kernel
theorem dL_acts_343 : decode cL_acts 343 = .ok (.ireturn, 1) := by decide +kernel
theorem dL_acts_344 : decode cL_acts 344 = .ok (.aload_n 0, 1) := by decide +kernel
theorem dL_acts_345 : decode cL_acts 345 = .ok (.invokestatic 223, 3) := by decide +kernel
theorem dL_acts_348 : decode cL_acts 348 = .ok (.ireturn, 1) := by decide +kernel
theorem dL_acts_349 : decode cL_acts 349 = .ok (.aload_n 0, 1) := by decide +kernel
theorem dL_acts_350 : decode cL_acts 350 = .ok (.iload_n 2, 1) := by decide +kernel
theorem dL_acts_351 : decode cL_acts 351 = .ok (.iconst 2, 1) := by decide +kernel
theorem dL_acts_352 : decode cL_acts 352 = .ok (.irem, 1) := by decide +kernel
theorem dL_acts_353 : decode cL_acts 353 = .ok (.invokestatic 225, 3) := by decide +kernel
theorem dL_acts_356 : decode cL_acts 356 = .ok (.ireturn, 1) := by decide +kernel
theorem dL_acts_357 : decode cL_acts 357 = .ok (.aload_n 0, 1) := by decide +kernel
theorem dL_acts_358 : decode cL_acts 358 = .ok (.iload_n 2, 1) := by decide +kernel
theorem dL_acts_359 : decode cL_acts 359 = .ok (.iconst 2, 1) := by decide +kernel
theorem dL_acts_360 : decode cL_acts 360 = .ok (.irem, 1) := by decide +kernel
theorem dL_acts_361 : decode cL_acts 361 = .ok (.invokestatic 228, 3) := by decide +kernel
theorem dL_acts_364 : decode cL_acts 364 = .ok (.ireturn, 1) := by decide +kernel
theorem dL_acts_365 : decode cL_acts 365 = .ok (.aload_n 0, 1) := by decide +kernel
theorem dL_acts_366 : decode cL_acts 366 = .ok (.invokevirtual 230, 3) := by decide +kernel
theorem dL_acts_369 : decode cL_acts 369 = .ok (.istore 6, 2) := by decide +kernel
theorem dL_acts_371 : decode cL_acts 371 = .ok (.iconst 0, 1) := by decide +kernel
theorem dL_acts_372 : decode cL_acts 372 = .ok (.istore 7, 2) := by decide +kernel
theorem dL_acts_374 : decode cL_acts 374 = .ok (.iload 7, 2) := by decide +kernel
theorem dL_acts_376 : decode cL_acts 376 = .ok (.iconst 1, 1) := by decide +kernel
theorem dL_acts_377 : decode cL_acts 377 = .ok (.iload_n 2, 1) := by decide +kernel
theorem dL_acts_378 : decode cL_acts 378 = .ok (.iconst 4, 1) := by decide +kernel
theorem dL_acts_379 : decode cL_acts 379 = .ok (.irem, 1) := by decide +kernel
theorem dL_acts_380 : decode cL_acts 380 = .ok (.iadd, 1) := by decide +kernel
theorem dL_acts_381 : decode cL_acts 381 = .ok (.if_icmp .ge 165, 3) := by decide +kernel
theorem dL_acts_384 : decode cL_acts 384 = .ok (.iload_n 2, 1) := by decide +kernel
theorem dL_acts_385 : decode cL_acts 385 = .ok (.iconst 4, 1) := by decide +kernel
theorem dL_acts_386 : decode cL_acts 386 = .ok (.idiv, 1) := by decide +kernel
theorem dL_acts_387 : decode cL_acts 387 = .ok (.iconst 5, 1) := by decide +kernel
theorem dL_acts_388 : decode cL_acts 388 = .ok (.iload 7, 2) := by decide +kernel
theorem dL_acts_390 : decode cL_acts 390 = .ok (.imul, 1) := by decide +kernel
theorem dL_acts_391 : decode cL_acts 391 = .ok (.ishr, 1) := by decide +kernel
theorem dL_acts_392 : decode cL_acts 392 = .ok (.istore 8, 2) := by decide +kernel
theorem dL_acts_394 : decode cL_acts 394 = .ok (.iconst 4, 1) := by decide +kernel
theorem dL_acts_395 : decode cL_acts 395 = .ok (.iload 8, 2) := by decide +kernel
theorem dL_acts_397 : decode cL_acts 397 = .ok (.bipush 16, 2) := by decide +kernel
theorem dL_acts_399 : decode cL_acts 399 = .ok (.idiv, 1) := by decide +kernel
theorem dL_acts_400 : decode cL_acts 400 = .ok (.bipush 57, 2) := by decide +kernel
theorem dL_acts_402 : decode cL_acts 402 = .ok (.irem, 1) := by decide +kernel
theorem dL_acts_403 : decode cL_acts 403 = .ok (.iadd, 1) := by decide +kernel
theorem dL_acts_404 : decode cL_acts 404 = .ok (.istore 9, 2) := by decide +kernel
theorem dL_acts_406 : decode cL_acts 406 = .ok (.iload 7, 2) := by decide +kernel
theorem dL_acts_408 : decode cL_acts 408 = .ok (.ifCond .le 12, 3) := by decide +kernel
theorem dL_acts_411 : decode cL_acts 411 = .ok (.aload_n 0, 1) := by decide +kernel
theorem dL_acts_412 : decode cL_acts 412 = .ok (.bipush 59, 2) := by decide +kernel
theorem dL_acts_414 : decode cL_acts 414 = .ok (.invokestatic 233, 3) := by decide +kernel
theorem dL_acts_417 : decode cL_acts 417 = .ok (.goto 4, 3) := by decide +kernel
theorem dL_acts_420 : decode cL_acts 420 = .ok (.iconst 0, 1) := by decide +kernel
theorem dL_acts_421 : decode cL_acts 421 = .ok (.istore 6, 2) := by decide +kernel
theorem dL_acts_423 : decode cL_acts 423 = .ok (.aload_n 0, 1) := by decide +kernel
theorem dL_acts_424 : decode cL_acts 424 = .ok (.bipush 48, 2) := by decide +kernel
theorem dL_acts_426 : decode cL_acts 426 = .ok (.iload 8, 2) := by decide +kernel
theorem dL_acts_428 : decode cL_acts 428 = .ok (.iconst 4, 1) := by decide +kernel
theorem dL_acts_429 : decode cL_acts 429 = .ok (.irem, 1) := by decide +kernel
theorem dL_acts_430 : decode cL_acts 430 = .ok (.iadd, 1) := by decide +kernel
theorem dL_acts_431 : decode cL_acts 431 = .ok (.invokestatic 233, 3) := by decide +kernel
theorem dL_acts_434 : decode cL_acts 434 = .ok (.istore 6, 2) := by decide +kernel
theorem dL_acts_436 : decode cL_acts 436 = .ok (.aload_n 0, 1) := by decide +kernel
theorem dL_acts_437 : decode cL_acts 437 = .ok (.bipush 65, 2) := by decide +kernel
theorem dL_acts_439 : decode cL_acts 439 = .ok (.iload 8, 2) := by decide +kernel
theorem dL_acts_441 : decode cL_acts 441 = .ok (.iconst 4, 1) := by decide +kernel
theorem dL_acts_442 : decode cL_acts 442 = .ok (.idiv, 1) := by decide +kernel
theorem dL_acts_443 : decode cL_acts 443 = .ok (.iconst 5, 1) := by decide +kernel
theorem dL_acts_444 : decode cL_acts 444 = .ok (.irem, 1) := by decide +kernel
theorem dL_acts_445 : decode cL_acts 445 = .ok (.iadd, 1) := by decide +kernel
theorem dL_acts_446 : decode cL_acts 446 = .ok (.invokestatic 233, 3) := by decide +kernel
theorem dL_acts_449 : decode cL_acts 449 = .ok (.istore 6, 2) := by decide +kernel
theorem dL_acts_451 : decode cL_acts 451 = .ok (.iload 9, 2) := by decide +kernel
theorem dL_acts_453 : decode cL_acts 453 = .ok (.bipush 9, 2) := by decide +kernel
theorem dL_acts_455 : decode cL_acts 455 = .ok (.if_icmp .le 18, 3) := by decide +kernel
theorem dL_acts_458 : decode cL_acts 458 = .ok (.aload_n 0, 1) := by decide +kernel
theorem dL_acts_459 : decode cL_acts 459 = .ok (.bipush 48, 2) := by decide +kernel
theorem dL_acts_461 : decode cL_acts 461 = .ok (.iload 9, 2) := by decide +kernel
theorem dL_acts_463 : decode cL_acts 463 = .ok (.bipush 10, 2) := by decide +kernel
theorem dL_acts_465 : decode cL_acts 465 = .ok (.idiv, 1) := by decide +kernel
theorem dL_acts_466 : decode cL_acts 466 = .ok (.iadd, 1) := by decide +kernel
theorem dL_acts_467 : decode cL_acts 467 = .ok (.invokestatic 233, 3) := by decide +kernel
theorem dL_acts_470 : decode cL_acts 470 = .ok (.goto 5, 3) := by decide +kernel
theorem dL_acts_473 : decode cL_acts 473 = .ok (.iload 6, 2) := by decide +kernel
theorem dL_acts_475 : decode cL_acts 475 = .ok (.istore 6, 2) := by decide +kernel
theorem dL_acts_477 : decode cL_acts 477 = .ok (.aload_n 0, 1) := by decide +kernel
theorem dL_acts_478 : decode cL_acts 478 = .ok (.bipush 48, 2) := by decide +kernel
theorem dL_acts_480 : decode cL_acts 480 = .ok (.iload 9, 2) := by decide +kernel
theorem dL_acts_482 : decode cL_acts 482 = .ok (.bipush 10, 2) := by decide +kernel
theorem dL_acts_484 : decode cL_acts 484 = .ok (.irem, 1) := by decide +kernel
theorem dL_acts_485 : decode cL_acts 485 = .ok (.iadd, 1) := by decide +kernel
theorem dL_acts_486 : decode cL_acts 486 = .ok (.invokestatic 233, 3) := by decide +kernel
theorem dL_acts_489 : decode cL_acts 489 = .ok (.istore 6, 2) := by decide +kernel
theorem dL_acts_491 : decode cL_acts 491 = .ok (.iload 8, 2) := by decide +kernel
theorem dL_acts_493 : decode cL_acts 493 = .ok (.iconst 3, 1) := by decide +kernel
theorem dL_acts_494 : decode cL_acts 494 = .ok (.irem, 1) := by decide +kernel
theorem dL_acts_495 : decode cL_acts 495 = .ok (.ifCond .ne 12, 3) := by decide +kernel
theorem dL_acts_498 : decode cL_acts 498 = .ok (.aload_n 0, 1) := by decide +kernel
theorem dL_acts_499 : decode cL_acts 499 = .ok (.bipush 126, 2) := by decide +kernel
theorem dL_acts_501 : decode cL_acts 501 = .ok (.invokestatic 233, 3) := by decide +kernel
theorem dL_acts_504 : decode cL_acts 504 = .ok (.goto 5, 3) := by decide +kernel
theorem dL_acts_507 : decode cL_acts 507 = .ok (.iload 6, 2) := by decide +kernel
theorem dL_acts_509 : decode cL_acts 509 = .ok (.istore 6, 2) := by decide +kernel
theorem dL_acts_511 : decode cL_acts 511 = .ok (.iload 8, 2) := by decide +kernel
theorem dL_acts_513 : decode cL_acts 513 = .ok (.iconst 3, 1) := by decide +kernel
theorem dL_acts_514 : decode cL_acts 514 = .ok (.irem, 1) := by decide +kernel
theorem dL_acts_515 : decode cL_acts 515 = .ok (.ifCond .ne 21, 3) := by decide +kernel
theorem dL_acts_518 : decode cL_acts 518 = .ok (.aload_n 0, 1) := by decide +kernel
theorem dL_acts_519 : decode cL_acts 519 = .ok (.bipush 49, 2) := by decide +kernel
theorem dL_acts_521 : decode cL_acts 521 = .ok (.iload 8, 2) := by decide +kernel
theorem dL_acts_523 : decode cL_acts 523 = .ok (.bipush 8, 2) := by decide +kernel
theorem dL_acts_525 : decode cL_acts 525 = .ok (.idiv, 1) := by decide +kernel
theorem dL_acts_526 : decode cL_acts 526 = .ok (.bipush 9, 2) := by decide +kernel
theorem dL_acts_528 : decode cL_acts 528 = .ok (.irem, 1) := by decide +kernel
theorem dL_acts_529 : decode cL_acts 529 = .ok (.iadd, 1) := by decide +kernel
theorem dL_acts_530 : decode cL_acts 530 = .ok (.invokestatic 233, 3) := by decide +kernel
theorem dL_acts_533 : decode cL_acts 533 = .ok (.goto 5, 3) := by decide +kernel
theorem dL_acts_536 : decode cL_acts 536 = .ok (.iload 6, 2) := by decide +kernel
theorem dL_acts_538 : decode cL_acts 538 = .ok (.istore 6, 2) := by decide +kernel
theorem dL_acts_540 : decode cL_acts 540 = .ok (.iinc 7 1, 3) := by decide +kernel
theorem dL_acts_543 : decode cL_acts 543 = .ok (.goto (-169), 3) := by decide +kernel
theorem dL_acts_546 : decode cL_acts 546 = .ok (.iload 6, 2) := by decide +kernel
theorem dL_acts_548 : decode cL_acts 548 = .ok (.iconst 1, 1) := by decide +kernel
theorem dL_acts_549 : decode cL_acts 549 = .ok (.if_icmp .lt 12, 3) := by decide +kernel
theorem dL_acts_552 : decode cL_acts 552 = .ok (.aload_n 0, 1) := by decide +kernel
theorem dL_acts_553 : decode cL_acts 553 = .ok (.invokevirtual 235, 3) := by decide +kernel
theorem dL_acts_556 : decode cL_acts 556 = .ok (.iload 6, 2) := by decide +kernel
theorem dL_acts_558 : decode cL_acts 558 = .ok (.if_icmp .eq 8, 3) := by decide +kernel
theorem dL_acts_561 : decode cL_acts 561 = .ok (.bipush (-99), 2) := by decide +kernel
theorem dL_acts_563 : decode cL_acts 563 = .ok (.goto 7, 3) := by decide +kernel
theorem dL_acts_566 : decode cL_acts 566 = .ok (.aload_n 0, 1) := by decide +kernel
theorem dL_acts_567 : decode cL_acts 567 = .ok (.invokestatic 238, 3) := by decide +kernel
theorem dL_acts_570 : decode cL_acts 570 = .ok (.ireturn, 1) := by decide +kernel
theorem dL_acts_571 : decode cL_acts 571 = .ok (.aload_n 0, 1) := by decide +kernel
theorem dL_acts_572 : decode cL_acts 572 = .ok (.iload 4, 2) := by decide +kernel
theorem dL_acts_574 : decode cL_acts 574 = .ok (.iload 5, 2) := by decide +kernel
theorem dL_acts_576 : decode cL_acts 576 = .ok (.invokestatic 240, 3) := by decide +kernel
theorem dL_acts_579 : decode cL_acts 579 = .ok (.ireturn, 1) := by decide +kernel
