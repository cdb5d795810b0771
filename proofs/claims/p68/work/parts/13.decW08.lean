theorem dL_refuses_251 : decode cL_refuses 251 = .ok (.aload_n 0, 1) := by decide +kernel
theorem dL_refuses_252 : decode cL_refuses 252 = .ok (.iload_n 3, 1) := by decide +kernel
theorem dL_refuses_253 : decode cL_refuses 253 = .ok (.iconst 0, 1) := by decide +kernel
theorem dL_refuses_254 : decode cL_refuses 254 = .ok (.invokestatic 217, 3) := by decide +kernel
theorem dL_refuses_257 : decode cL_refuses 257 = .ok (.bipush (-2), 2) := by decide +kernel
theorem dL_refuses_259 : decode cL_refuses 259 = .ok (.if_icmp .ne 383, 3) := by decide +kernel
theorem dL_refuses_262 : decode cL_refuses 262 = .ok (.aload_n 0, 1) := by decide +kernel
theorem dL_refuses_263 : decode cL_refuses 263 = .ok (.iload 4, 2) := by decide +kernel
theorem dL_refuses_265 : decode cL_refuses 265 = .ok (.iconst 0, 1) := by decide +kernel
theorem dL_refuses_266 : decode cL_refuses 266 = .ok (.invokestatic 219, 3) := by decide +kernel
theorem dL_refuses_269 : decode cL_refuses 269 = .ok (.bipush (-2), 2) := by decide +kernel
theorem dL_refuses_271 : decode cL_refuses 271 = .ok (.if_icmp .ne 371, 3) := by decide +kernel
theorem dL_refuses_274 : decode cL_refuses 274 = .ok (.aload_n 0, 1) := by decide +kernel
theorem dL_refuses_275 : decode cL_refuses 275 = .ok (.iconst 0, 1) := by decide +kernel
theorem dL_refuses_276 : decode cL_refuses 276 = .ok (.iload 6, 2) := by decide +kernel
theorem dL_refuses_278 : decode cL_refuses 278 = .ok (.invokestatic 219, 3) := by decide +kernel
theorem dL_refuses_281 : decode cL_refuses 281 = .ok (.bipush (-2), 2) := by decide +kernel
theorem dL_refuses_283 : decode cL_refuses 283 = .ok (.if_icmp .ne 359, 3) := by decide +kernel
theorem dL_refuses_286 : decode cL_refuses 286 = .ok (.aload_n 0, 1) := by decide +kernel
theorem dL_refuses_287 : decode cL_refuses 287 = .ok (.iload 5, 2) := by decide +kernel
theorem dL_refuses_289 : decode cL_refuses 289 = .ok (.iconst 0, 1) := by decide +kernel
theorem dL_refuses_290 : decode cL_refuses 290 = .ok (.iconst 0, 1) := by decide +kernel
theorem dL_refuses_291 : decode cL_refuses 291 = .ok (.invokestatic 221, 3) := by decide +kernel
theorem dL_refuses_294 : decode cL_refuses 294 = .ok (.bipush (-2), 2) := by decide +kernel
theorem dL_refuses_296 : decode cL_refuses 296 = .ok (.if_icmp .ne 346, 3) := by decide +kernel
theorem dL_refuses_299 : decode cL_refuses 299 = .ok (.aload_n 0, 1) := by decide +kernel
theorem dL_refuses_300 : decode cL_refuses 300 = .ok (.iconst 0, 1) := by decide +kernel
theorem dL_refuses_301 : decode cL_refuses 301 = .ok (.iload 4, 2) := by decide +kernel
theorem dL_refuses_303 : decode cL_refuses 303 = .ok (.iconst 0, 1) := by decide +kernel
theorem dL_refuses_304 : decode cL_refuses 304 = .ok (.invokestatic 221, 3) := by decide +kernel
theorem dL_refuses_307 : decode cL_refuses 307 = .ok (.bipush (-2), 2) := by decide +kernel
theorem dL_refuses_309 : decode cL_refuses 309 = .ok (.if_icmp .ne 333, 3) := by decide +kernel
theorem dL_refuses_312 : decode cL_refuses 312 = .ok (.aload_n 0, 1) := by decide +kernel
theorem dL_refuses_313 : decode cL_refuses 313 = .ok (.iconst 0, 1) := by decide +kernel
theorem dL_refuses_314 : decode cL_refuses 314 = .ok (.iconst 0, 1) := by decide +kernel
theorem dL_refuses_315 : decode cL_refuses 315 = .ok (.iload 6, 2) := by decide +kernel
theorem dL_refuses_317 : decode cL_refuses 317 = .ok (.invokestatic 221, 3) := by decide +kernel
theorem dL_refuses_320 : decode cL_refuses 320 = .ok (.bipush (-2), 2) := by decide +kernel
theorem dL_refuses_322 : decode cL_refuses 322 = .ok (.if_icmp .ne 320, 3) := by decide +kernel
theorem dL_refuses_325 : decode cL_refuses 325 = .ok (.aload_n 0, 1) := by decide +kernel
theorem dL_refuses_326 : decode cL_refuses 326 = .ok (.bipush 32, 2) := by decide +kernel
theorem dL_refuses_328 : decode cL_refuses 328 = .ok (.iload_n 1, 1) := by decide +kernel
theorem dL_refuses_329 : decode cL_refuses 329 = .ok (.isub, 1) := by decide +kernel
theorem dL_refuses_330 : decode cL_refuses 330 = .ok (.invokestatic 233, 3) := by decide +kernel
theorem dL_refuses_333 : decode cL_refuses 333 = .ok (.bipush (-3), 2) := by decide +kernel
theorem dL_refuses_335 : decode cL_refuses 335 = .ok (.if_icmp .ne 307, 3) := by decide +kernel
theorem dL_refuses_338 : decode cL_refuses 338 = .ok (.aload_n 0, 1) := by decide +kernel
theorem dL_refuses_339 : decode cL_refuses 339 = .ok (.bipush 127, 2) := by decide +kernel
theorem dL_refuses_341 : decode cL_refuses 341 = .ok (.iload_n 1, 1) := by decide +kernel
theorem dL_refuses_342 : decode cL_refuses 342 = .ok (.iadd, 1) := by decide +kernel
theorem dL_refuses_343 : decode cL_refuses 343 = .ok (.invokestatic 233, 3) := by decide +kernel
theorem dL_refuses_346 : decode cL_refuses 346 = .ok (.bipush (-3), 2) := by decide +kernel
theorem dL_refuses_348 : decode cL_refuses 348 = .ok (.if_icmp .ne 294, 3) := by decide +kernel
theorem dL_refuses_351 : decode cL_refuses 351 = .ok (.aload_n 0, 1) := by decide +kernel
theorem dL_refuses_352 : decode cL_refuses 352 = .ok (.iconst 2, 1) := by decide +kernel
theorem dL_refuses_353 : decode cL_refuses 353 = .ok (.iload_n 1, 1) := by decide +kernel
theorem dL_refuses_354 : decode cL_refuses 354 = .ok (.iadd, 1) := by decide +kernel
theorem dL_refuses_355 : decode cL_refuses 355 = .ok (.invokestatic 225, 3) := by decide +kernel
theorem dL_refuses_358 : decode cL_refuses 358 = .ok (.bipush (-3), 2) := by decide +kernel
theorem dL_refuses_360 : decode cL_refuses 360 = .ok (.if_icmp .ne 282, 3) := by decide +kernel
theorem dL_refuses_363 : decode cL_refuses 363 = .ok (.aload_n 0, 1) := by decide +kernel
theorem dL_refuses_364 : decode cL_refuses 364 = .ok (.iconst (-1), 1) := by decide +kernel
theorem dL_refuses_365 : decode cL_refuses 365 = .ok (.iload_n 1, 1) := by decide +kernel
theorem dL_refuses_366 : decode cL_refuses 366 = .ok (.isub, 1) := by decide +kernel
theorem dL_refuses_367 : decode cL_refuses 367 = .ok (.invokestatic 228, 3) := by decide +kernel
theorem dL_refuses_370 : decode cL_refuses 370 = .ok (.bipush (-3), 2) := by decide +kernel
theorem dL_refuses_372 : decode cL_refuses 372 = .ok (.if_icmp .ne 270, 3) := by decide +kernel
theorem dL_refuses_375 : decode cL_refuses 375 = .ok (.aload_n 0, 1) := by decide +kernel
theorem dL_refuses_376 : decode cL_refuses 376 = .ok (.iload_n 3, 1) := by decide +kernel
theorem dL_refuses_377 : decode cL_refuses 377 = .ok (.invokestatic 255, 3) := by decide +kernel
theorem dL_refuses_380 : decode cL_refuses 380 = .ok (.bipush (-2), 2) := by decide +kernel
theorem dL_refuses_382 : decode cL_refuses 382 = .ok (.if_icmp .ne 260, 3) := by decide +kernel
theorem dL_refuses_385 : decode cL_refuses 385 = .ok (.aload_n 0, 1) := by decide +kernel
theorem dL_refuses_386 : decode cL_refuses 386 = .ok (.iload_n 3, 1) := by decide +kernel
theorem dL_refuses_387 : decode cL_refuses 387 = .ok (.iconst 0, 1) := by decide +kernel
theorem dL_refuses_388 : decode cL_refuses 388 = .ok (.invokestatic 258, 3) := by decide +kernel
theorem dL_refuses_391 : decode cL_refuses 391 = .ok (.bipush (-2), 2) := by decide +kernel
theorem dL_refuses_393 : decode cL_refuses 393 = .ok (.if_icmp .ne 249, 3) := by decide +kernel
theorem dL_refuses_396 : decode cL_refuses 396 = .ok (.aload_n 0, 1) := by decide +kernel
theorem dL_refuses_397 : decode cL_refuses 397 = .ok (.iload_n 3, 1) := by decide +kernel
theorem dL_refuses_398 : decode cL_refuses 398 = .ok (.iconst 0, 1) := by decide +kernel
theorem dL_refuses_399 : decode cL_refuses 399 = .ok (.invokestatic 276, 3) := by decide +kernel
theorem dL_refuses_402 : decode cL_refuses 402 = .ok (.bipush (-2), 2) := by decide +kernel
theorem dL_refuses_404 : decode cL_refuses 404 = .ok (.if_icmp .ne 238, 3) := by decide +kernel
theorem dL_refuses_407 : decode cL_refuses 407 = .ok (.aload_n 0, 1) := by decide +kernel
theorem dL_refuses_408 : decode cL_refuses 408 = .ok (.iload_n 3, 1) := by decide +kernel
theorem dL_refuses_409 : decode cL_refuses 409 = .ok (.iconst 0, 1) := by decide +kernel
theorem dL_refuses_410 : decode cL_refuses 410 = .ok (.invokestatic 264, 3) := by decide +kernel
theorem dL_refuses_413 : decode cL_refuses 413 = .ok (.bipush (-2), 2) := by decide +kernel
theorem dL_refuses_415 : decode cL_refuses 415 = .ok (.if_icmp .ne 227, 3) := by decide +kernel
theorem dL_refuses_418 : decode cL_refuses 418 = .ok (.aload_n 0, 1) := by decide +kernel
theorem dL_refuses_419 : decode cL_refuses 419 = .ok (.iload_n 3, 1) := by decide +kernel
theorem dL_refuses_420 : decode cL_refuses 420 = .ok (.iconst 0, 1) := by decide +kernel
theorem dL_refuses_421 : decode cL_refuses 421 = .ok (.invokestatic 260, 3) := by decide +kernel
theorem dL_refuses_424 : decode cL_refuses 424 = .ok (.sipush (-902), 3) := by decide +kernel
theorem dL_refuses_427 : decode cL_refuses 427 = .ok (.if_icmp .ne 215, 3) := by decide +kernel
theorem dL_refuses_430 : decode cL_refuses 430 = .ok (.aload_n 0, 1) := by decide +kernel
theorem dL_refuses_431 : decode cL_refuses 431 = .ok (.iload_n 3, 1) := by decide +kernel
theorem dL_refuses_432 : decode cL_refuses 432 = .ok (.iconst 0, 1) := by decide +kernel
theorem dL_refuses_433 : decode cL_refuses 433 = .ok (.invokestatic 270, 3) := by decide +kernel
theorem dL_refuses_436 : decode cL_refuses 436 = .ok (.bipush (-2), 2) := by decide +kernel
theorem dL_refuses_438 : decode cL_refuses 438 = .ok (.if_icmp .ne 204, 3) := by decide +kernel
theorem dL_refuses_441 : decode cL_refuses 441 = .ok (.aload_n 0, 1) := by decide +kernel
theorem dL_refuses_442 : decode cL_refuses 442 = .ok (.iload_n 3, 1) := by decide +kernel
theorem dL_refuses_443 : decode cL_refuses 443 = .ok (.iconst 0, 1) := by decide +kernel
theorem dL_refuses_444 : decode cL_refuses 444 = .ok (.invokestatic 268, 3) := by decide +kernel
theorem dL_refuses_447 : decode cL_refuses 447 = .ok (.bipush (-2), 2) := by decide +kernel
theorem dL_refuses_449 : decode cL_refuses 449 = .ok (.if_icmp .ne 193, 3) := by decide +kernel
theorem dL_refuses_452 : decode cL_refuses 452 = .ok (.aload_n 0, 1) := by decide +kernel
theorem dL_refuses_453 : decode cL_refuses 453 = .ok (.iload_n 3, 1) := by decide +kernel
theorem dL_refuses_454 : decode cL_refuses 454 = .ok (.iconst 0, 1) := by decide +kernel
theorem dL_refuses_455 : decode cL_refuses 455 = .ok (.invokestatic 262, 3) := by decide +kernel
theorem dL_refuses_458 : decode cL_refuses 458 = .ok (.bipush (-2), 2) := by decide +kernel
theorem dL_refuses_460 : decode cL_refuses 460 = .ok (.if_icmp .ne 182, 3) := by decide +kernel
theorem dL_refuses_463 : decode cL_refuses 463 = .ok (.aload_n 0, 1) := by decide +kernel
theorem dL_refuses_464 : decode cL_refuses 464 = .ok (.iload 5, 2) := by decide +kernel
theorem dL_refuses_466 : decode cL_refuses 466 = .ok (.iconst 0, 1) := by decide +kernel
theorem dL_refuses_467 : decode cL_refuses 467 = .ok (.invokestatic 280, 3) := by decide +kernel
theorem dL_refuses_470 : decode cL_refuses 470 = .ok (.bipush (-2), 2) := by decide +kernel
theorem dL_refuses_472 : decode cL_refuses 472 = .ok (.if_icmp .ne 170, 3) := by decide +kernel
theorem dL_refuses_475 : decode cL_refuses 475 = .ok (.aload_n 0, 1) := by decide +kernel
theorem dL_refuses_476 : decode cL_refuses 476 = .ok (.iconst 0, 1) := by decide +kernel
theorem dL_refuses_477 : decode cL_refuses 477 = .ok (.iload 6, 2) := by decide +kernel
theorem dL_refuses_479 : decode cL_refuses 479 = .ok (.invokestatic 282, 3) := by decide +kernel
theorem dL_refuses_482 : decode cL_refuses 482 = .ok (.bipush (-2), 2) := by decide +kernel
theorem dL_refuses_484 : decode cL_refuses 484 = .ok (.if_icmp .ne 158, 3) := by decide +kernel
theorem dL_refuses_487 : decode cL_refuses 487 = .ok (.aload_n 0, 1) := by decide +kernel
theorem dL_refuses_488 : decode cL_refuses 488 = .ok (.iload 5, 2) := by decide +kernel
theorem dL_refuses_490 : decode cL_refuses 490 = .ok (.iconst 0, 1) := by decide +kernel
theorem dL_refuses_491 : decode cL_refuses 491 = .ok (.invokestatic 286, 3) := by decide +kernel
theorem dL_refuses_494 : decode cL_refuses 494 = .ok (.bipush (-2), 2) := by decide +kernel
theorem dL_refuses_496 : decode cL_refuses 496 = .ok (.if_icmp .ne 146, 3) := by decide +kernel
theorem dL_refuses_499 : decode cL_refuses 499 = .ok (.aload_n 0, 1) := by decide +kernel
theorem dL_refuses_500 : decode cL_refuses 500 = .ok (.iconst 0, 1) := by decide +kernel
theorem dL_refuses_501 : decode cL_refuses 501 = .ok (.iload 6, 2) := by decide +kernel
theorem dL_refuses_503 : decode cL_refuses 503 = .ok (.invokestatic 278, 3) := by decide +kernel
theorem dL_refuses_506 : decode cL_refuses 506 = .ok (.bipush (-2), 2) := by decide +kernel
theorem dL_refuses_508 : decode cL_refuses 508 = .ok (.if_icmp .ne 134, 3) := by decide +kernel
theorem dL_refuses_511 : decode cL_refuses 511 = .ok (.aload_n 0, 1) := by decide +kernel
theorem dL_refuses_512 : decode cL_refuses 512 = .ok (.iload 5, 2) := by decide +kernel
theorem dL_refuses_514 : decode cL_refuses 514 = .ok (.iconst 0, 1) := by decide +kernel
theorem dL_refuses_515 : decode cL_refuses 515 = .ok (.invokestatic 284, 3) := by decide +kernel
theorem dL_refuses_518 : decode cL_refuses 518 = .ok (.bipush (-2), 2) := by decide +kernel
theorem dL_refuses_520 : decode cL_refuses 520 = .ok (.if_icmp .ne 122, 3) := by decide +kernel
theorem dL_refuses_523 : decode cL_refuses 523 = .ok (.aload_n 0, 1) := by decide +kernel
theorem dL_refuses_524 : decode cL_refuses 524 = .ok (.iload 4, 2) := by decide +kernel
theorem dL_refuses_526 : decode cL_refuses 526 = .ok (.invokestatic 295, 3) := by decide +kernel
theorem dL_refuses_529 : decode cL_refuses 529 = .ok (.bipush (-2), 2) := by decide +kernel
theorem dL_refuses_531 : decode cL_refuses 531 = .ok (.if_icmp .ne 111, 3) := by decide +kernel
theorem dL_refuses_534 : decode cL_refuses 534 = .ok (.aload_n 0, 1) := by decide +kernel
