theorem dL_law_3359 : decode cL_law 3359 = .ok (.iload 5, 2) := by decide +kernel
theorem dL_law_3361 : decode cL_law 3361 = .ok (.iconst 1, 1) := by decide +kernel
theorem dL_law_3362 : decode cL_law 3362 = .ok (.iadd, 1) := by decide +kernel
theorem dL_law_3363 : decode cL_law 3363 = .ok (.iaload, 1) := by decide +kernel
theorem dL_law_3364 : decode cL_law 3364 = .ok (.aload_n 3, 1) := by decide +kernel
theorem dL_law_3365 : decode cL_law 3365 = .ok (.invokestatic 355, 3) := by decide +kernel
theorem dL_law_3368 : decode cL_law 3368 = .ok (.istore 6, 2) := by decide +kernel
theorem dL_law_3370 : decode cL_law 3370 = .ok (.aload_n 2, 1) := by decide +kernel
theorem dL_law_3371 : decode cL_law 3371 = .ok (.aload_n 0, 1) := by decide +kernel
theorem dL_law_3372 : decode cL_law 3372 = .ok (.iload 5, 2) := by decide +kernel
theorem dL_law_3374 : decode cL_law 3374 = .ok (.iconst 1, 1) := by decide +kernel
theorem dL_law_3375 : decode cL_law 3375 = .ok (.iadd, 1) := by decide +kernel
theorem dL_law_3376 : decode cL_law 3376 = .ok (.iaload, 1) := by decide +kernel
theorem dL_law_3377 : decode cL_law 3377 = .ok (.invokevirtual 357, 3) := by decide +kernel
theorem dL_law_3380 : decode cL_law 3380 = .ok (.istore 7, 2) := by decide +kernel
theorem dL_law_3382 : decode cL_law 3382 = .ok (.aload_n 2, 1) := by decide +kernel
theorem dL_law_3383 : decode cL_law 3383 = .ok (.invokevirtual 196, 3) := by decide +kernel
theorem dL_law_3386 : decode cL_law 3386 = .ok (.iload 6, 2) := by decide +kernel
theorem dL_law_3388 : decode cL_law 3388 = .ok (.if_icmp .eq 5, 3) := by decide +kernel
theorem dL_law_3391 : decode cL_law 3391 = .ok (.iconst 0, 1) := by decide +kernel
theorem dL_law_3392 : decode cL_law 3392 = .ok (.ireturn, 1) := by decide +kernel
theorem dL_law_3393 : decode cL_law 3393 = .ok (.iload 6, 2) := by decide +kernel
theorem dL_law_3395 : decode cL_law 3395 = .ok (.ifCond .ne 15, 3) := by decide +kernel
theorem dL_law_3398 : decode cL_law 3398 = .ok (.aload_n 3, 1) := by decide +kernel
theorem dL_law_3399 : decode cL_law 3399 = .ok (.iconst 0, 1) := by decide +kernel
theorem dL_law_3400 : decode cL_law 3400 = .ok (.laload, 1) := by decide +kernel
theorem dL_law_3401 : decode cL_law 3401 = .ok (.iload 7, 2) := by decide +kernel
theorem dL_law_3403 : decode cL_law 3403 = .ok (.i2l, 1) := by decide +kernel
theorem dL_law_3404 : decode cL_law 3404 = .ok (.lcmp, 1) := by decide +kernel
theorem dL_law_3405 : decode cL_law 3405 = .ok (.ifCond .eq 5, 3) := by decide +kernel
theorem dL_law_3408 : decode cL_law 3408 = .ok (.iconst 0, 1) := by decide +kernel
theorem dL_law_3409 : decode cL_law 3409 = .ok (.ireturn, 1) := by decide +kernel
theorem dL_law_3410 : decode cL_law 3410 = .ok (.goto 527, 3) := by decide +kernel
theorem dL_law_3413 : decode cL_law 3413 = .ok (.aload_n 1, 1) := by decide +kernel
theorem dL_law_3414 : decode cL_law 3414 = .ok (.aload_n 0, 1) := by decide +kernel
theorem dL_law_3415 : decode cL_law 3415 = .ok (.iload 5, 2) := by decide +kernel
theorem dL_law_3417 : decode cL_law 3417 = .ok (.iconst 1, 1) := by decide +kernel
theorem dL_law_3418 : decode cL_law 3418 = .ok (.iadd, 1) := by decide +kernel
theorem dL_law_3419 : decode cL_law 3419 = .ok (.iaload, 1) := by decide +kernel
theorem dL_law_3420 : decode cL_law 3420 = .ok (.aload_n 3, 1) := by decide +kernel
theorem dL_law_3421 : decode cL_law 3421 = .ok (.invokestatic 358, 3) := by decide +kernel
theorem dL_law_3424 : decode cL_law 3424 = .ok (.istore 6, 2) := by decide +kernel
theorem dL_law_3426 : decode cL_law 3426 = .ok (.aload_n 2, 1) := by decide +kernel
theorem dL_law_3427 : decode cL_law 3427 = .ok (.aload_n 0, 1) := by decide +kernel
theorem dL_law_3428 : decode cL_law 3428 = .ok (.iload 5, 2) := by decide +kernel
theorem dL_law_3430 : decode cL_law 3430 = .ok (.iconst 1, 1) := by decide +kernel
theorem dL_law_3431 : decode cL_law 3431 = .ok (.iadd, 1) := by decide +kernel
theorem dL_law_3432 : decode cL_law 3432 = .ok (.iaload, 1) := by decide +kernel
theorem dL_law_3433 : decode cL_law 3433 = .ok (.invokevirtual 360, 3) := by decide +kernel
theorem dL_law_3436 : decode cL_law 3436 = .ok (.istore 7, 2) := by decide +kernel
theorem dL_law_3438 : decode cL_law 3438 = .ok (.aload_n 2, 1) := by decide +kernel
theorem dL_law_3439 : decode cL_law 3439 = .ok (.invokevirtual 196, 3) := by decide +kernel
theorem dL_law_3442 : decode cL_law 3442 = .ok (.iload 6, 2) := by decide +kernel
theorem dL_law_3444 : decode cL_law 3444 = .ok (.if_icmp .eq 5, 3) := by decide +kernel
theorem dL_law_3447 : decode cL_law 3447 = .ok (.iconst 0, 1) := by decide +kernel
theorem dL_law_3448 : decode cL_law 3448 = .ok (.ireturn, 1) := by decide +kernel
theorem dL_law_3449 : decode cL_law 3449 = .ok (.iload 6, 2) := by decide +kernel
theorem dL_law_3451 : decode cL_law 3451 = .ok (.ifCond .ne 15, 3) := by decide +kernel
theorem dL_law_3454 : decode cL_law 3454 = .ok (.aload_n 3, 1) := by decide +kernel
theorem dL_law_3455 : decode cL_law 3455 = .ok (.iconst 0, 1) := by decide +kernel
theorem dL_law_3456 : decode cL_law 3456 = .ok (.laload, 1) := by decide +kernel
theorem dL_law_3457 : decode cL_law 3457 = .ok (.iload 7, 2) := by decide +kernel
theorem dL_law_3459 : decode cL_law 3459 = .ok (.i2l, 1) := by decide +kernel
theorem dL_law_3460 : decode cL_law 3460 = .ok (.lcmp, 1) := by decide +kernel
theorem dL_law_3461 : decode cL_law 3461 = .ok (.ifCond .eq 5, 3) := by decide +kernel
theorem dL_law_3464 : decode cL_law 3464 = .ok (.iconst 0, 1) := by decide +kernel
theorem dL_law_3465 : decode cL_law 3465 = .ok (.ireturn, 1) := by decide +kernel
theorem dL_law_3466 : decode cL_law 3466 = .ok (.goto 471, 3) := by decide +kernel
theorem dL_law_3469 : decode cL_law 3469 = .ok (.aload_n 1, 1) := by decide +kernel
theorem dL_law_3470 : decode cL_law 3470 = .ok (.aload_n 0, 1) := by decide +kernel
theorem dL_law_3471 : decode cL_law 3471 = .ok (.iload 5, 2) := by decide +kernel
theorem dL_law_3473 : decode cL_law 3473 = .ok (.iconst 1, 1) := by decide +kernel
theorem dL_law_3474 : decode cL_law 3474 = .ok (.iadd, 1) := by decide +kernel
theorem dL_law_3475 : decode cL_law 3475 = .ok (.iaload, 1) := by decide +kernel
theorem dL_law_3476 : decode cL_law 3476 = .ok (.aload_n 3, 1) := by decide +kernel
theorem dL_law_3477 : decode cL_law 3477 = .ok (.invokestatic 361, 3) := by decide +kernel
theorem dL_law_3480 : decode cL_law 3480 = .ok (.istore 6, 2) := by decide +kernel
theorem dL_law_3482 : decode cL_law 3482 = .ok (.aload_n 2, 1) := by decide +kernel
theorem dL_law_3483 : decode cL_law 3483 = .ok (.aload_n 0, 1) := by decide +kernel
theorem dL_law_3484 : decode cL_law 3484 = .ok (.iload 5, 2) := by decide +kernel
theorem dL_law_3486 : decode cL_law 3486 = .ok (.iconst 1, 1) := by decide +kernel
theorem dL_law_3487 : decode cL_law 3487 = .ok (.iadd, 1) := by decide +kernel
theorem dL_law_3488 : decode cL_law 3488 = .ok (.iaload, 1) := by decide +kernel
theorem dL_law_3489 : decode cL_law 3489 = .ok (.invokevirtual 363, 3) := by decide +kernel
theorem dL_law_3492 : decode cL_law 3492 = .ok (.istore 7, 2) := by decide +kernel
theorem dL_law_3494 : decode cL_law 3494 = .ok (.aload_n 2, 1) := by decide +kernel
theorem dL_law_3495 : decode cL_law 3495 = .ok (.invokevirtual 196, 3) := by decide +kernel
theorem dL_law_3498 : decode cL_law 3498 = .ok (.iload 6, 2) := by decide +kernel
theorem dL_law_3500 : decode cL_law 3500 = .ok (.if_icmp .eq 5, 3) := by decide +kernel
theorem dL_law_3503 : decode cL_law 3503 = .ok (.iconst 0, 1) := by decide +kernel
theorem dL_law_3504 : decode cL_law 3504 = .ok (.ireturn, 1) := by decide +kernel
theorem dL_law_3505 : decode cL_law 3505 = .ok (.iload 6, 2) := by decide +kernel
theorem dL_law_3507 : decode cL_law 3507 = .ok (.ifCond .ne 22, 3) := by decide +kernel
theorem dL_law_3510 : decode cL_law 3510 = .ok (.aload_n 3, 1) := by decide +kernel
theorem dL_law_3511 : decode cL_law 3511 = .ok (.iconst 0, 1) := by decide +kernel
theorem dL_law_3512 : decode cL_law 3512 = .ok (.laload, 1) := by decide +kernel
theorem dL_law_3513 : decode cL_law 3513 = .ok (.iload 7, 2) := by decide +kernel
theorem dL_law_3515 : decode cL_law 3515 = .ok (.ifCond .eq 7, 3) := by decide +kernel
theorem dL_law_3518 : decode cL_law 3518 = .ok (.lconst 1, 1) := by decide +kernel
theorem dL_law_3519 : decode cL_law 3519 = .ok (.goto 4, 3) := by decide +kernel
theorem dL_law_3522 : decode cL_law 3522 = .ok (.lconst 0, 1) := by decide +kernel
theorem dL_law_3523 : decode cL_law 3523 = .ok (.lcmp, 1) := by decide +kernel
theorem dL_law_3524 : decode cL_law 3524 = .ok (.ifCond .eq 5, 3) := by decide +kernel
theorem dL_law_3527 : decode cL_law 3527 = .ok (.iconst 0, 1) := by decide +kernel
theorem dL_law_3528 : decode cL_law 3528 = .ok (.ireturn, 1) := by decide +kernel
theorem dL_law_3529 : decode cL_law 3529 = .ok (.goto 408, 3) := by decide +kernel
theorem dL_law_3532 : decode cL_law 3532 = .ok (.aload_n 1, 1) := by decide +kernel
theorem dL_law_3533 : decode cL_law 3533 = .ok (.aload_n 0, 1) := by decide +kernel
theorem dL_law_3534 : decode cL_law 3534 = .ok (.iload 5, 2) := by decide +kernel
theorem dL_law_3536 : decode cL_law 3536 = .ok (.iconst 1, 1) := by decide +kernel
theorem dL_law_3537 : decode cL_law 3537 = .ok (.iadd, 1) := by decide +kernel
theorem dL_law_3538 : decode cL_law 3538 = .ok (.iaload, 1) := by decide +kernel
theorem dL_law_3539 : decode cL_law 3539 = .ok (.aload_n 3, 1) := by decide +kernel
theorem dL_law_3540 : decode cL_law 3540 = .ok (.invokestatic 364, 3) := by decide +kernel
theorem dL_law_3543 : decode cL_law 3543 = .ok (.istore 6, 2) := by decide +kernel
theorem dL_law_3545 : decode cL_law 3545 = .ok (.aload_n 2, 1) := by decide +kernel
theorem dL_law_3546 : decode cL_law 3546 = .ok (.aload_n 0, 1) := by decide +kernel
theorem dL_law_3547 : decode cL_law 3547 = .ok (.iload 5, 2) := by decide +kernel
theorem dL_law_3549 : decode cL_law 3549 = .ok (.iconst 1, 1) := by decide +kernel
theorem dL_law_3550 : decode cL_law 3550 = .ok (.iadd, 1) := by decide +kernel
theorem dL_law_3551 : decode cL_law 3551 = .ok (.iaload, 1) := by decide +kernel
theorem dL_law_3552 : decode cL_law 3552 = .ok (.invokevirtual 366, 3) := by decide +kernel
theorem dL_law_3555 : decode cL_law 3555 = .ok (.istore 7, 2) := by decide +kernel
theorem dL_law_3557 : decode cL_law 3557 = .ok (.aload_n 2, 1) := by decide +kernel
theorem dL_law_3558 : decode cL_law 3558 = .ok (.invokevirtual 196, 3) := by decide +kernel
theorem dL_law_3561 : decode cL_law 3561 = .ok (.iload 6, 2) := by decide +kernel
theorem dL_law_3563 : decode cL_law 3563 = .ok (.if_icmp .eq 5, 3) := by decide +kernel
theorem dL_law_3566 : decode cL_law 3566 = .ok (.iconst 0, 1) := by decide +kernel
theorem dL_law_3567 : decode cL_law 3567 = .ok (.ireturn, 1) := by decide +kernel
theorem dL_law_3568 : decode cL_law 3568 = .ok (.iload 6, 2) := by decide +kernel
theorem dL_law_3570 : decode cL_law 3570 = .ok (.ifCond .ne 15, 3) := by decide +kernel
theorem dL_law_3573 : decode cL_law 3573 = .ok (.aload_n 3, 1) := by decide +kernel
theorem dL_law_3574 : decode cL_law 3574 = .ok (.iconst 0, 1) := by decide +kernel
theorem dL_law_3575 : decode cL_law 3575 = .ok (.laload, 1) := by decide +kernel
theorem dL_law_3576 : decode cL_law 3576 = .ok (.iload 7, 2) := by decide +kernel
theorem dL_law_3578 : decode cL_law 3578 = .ok (.i2l, 1) := by decide +kernel
theorem dL_law_3579 : decode cL_law 3579 = .ok (.lcmp, 1) := by decide +kernel
theorem dL_law_3580 : decode cL_law 3580 = .ok (.ifCond .eq 5, 3) := by decide +kernel
theorem dL_law_3583 : decode cL_law 3583 = .ok (.iconst 0, 1) := by decide +kernel
theorem dL_law_3584 : decode cL_law 3584 = .ok (.ireturn, 1) := by decide +kernel
theorem dL_law_3585 : decode cL_law 3585 = .ok (.goto 352, 3) := by decide +kernel
theorem dL_law_3588 : decode cL_law 3588 = .ok (.aload_n 1, 1) := by decide +kernel
theorem dL_law_3589 : decode cL_law 3589 = .ok (.invokevirtual 367, 3) := by decide +kernel
theorem dL_law_3592 : decode cL_law 3592 = .ok (.aload_n 2, 1) := by decide +kernel
theorem dL_law_3593 : decode cL_law 3593 = .ok (.invokevirtual 370, 3) := by decide +kernel
theorem dL_law_3596 : decode cL_law 3596 = .ok (.if_icmp .eq 341, 3) := by decide +kernel
theorem dL_law_3599 : decode cL_law 3599 = .ok (.iconst 0, 1) := by decide +kernel
theorem dL_law_3600 : decode cL_law 3600 = .ok (.ireturn, 1) := by decide +kernel
theorem dL_law_3601 : decode cL_law 3601 = .ok (.aload_n 1, 1) := by decide +kernel
theorem dL_law_3602 : decode cL_law 3602 = .ok (.invokevirtual 371, 3) := by decide +kernel
theorem dL_law_3605 : decode cL_law 3605 = .ok (.aload_n 2, 1) := by decide +kernel
theorem dL_law_3606 : decode cL_law 3606 = .ok (.invokevirtual 374, 3) := by decide +kernel
theorem dL_law_3609 : decode cL_law 3609 = .ok (.if_icmp .eq 328, 3) := by decide +kernel
theorem dL_law_3612 : decode cL_law 3612 = .ok (.iconst 0, 1) := by decide +kernel
theorem dL_law_3613 : decode cL_law 3613 = .ok (.ireturn, 1) := by decide +kernel
theorem dL_law_3614 : decode cL_law 3614 = .ok (.aload_n 1, 1) := by decide +kernel
theorem dL_law_3615 : decode cL_law 3615 = .ok (.invokevirtual 375, 3) := by decide +kernel
theorem dL_law_3618 : decode cL_law 3618 = .ok (.aload_n 2, 1) := by decide +kernel
theorem dL_law_3619 : decode cL_law 3619 = .ok (.invokevirtual 378, 3) := by decide +kernel
theorem dL_law_3622 : decode cL_law 3622 = .ok (.if_icmp .eq 315, 3) := by decide +kernel
theorem dL_law_3625 : decode cL_law 3625 = .ok (.iconst 0, 1) := by decide +kernel
theorem dL_law_3626 : decode cL_law 3626 = .ok (.ireturn, 1) := by decide +kernel
theorem dL_law_3627 : decode cL_law 3627 = .ok (.aload_n 1, 1) := by decide +kernel
theorem dL_law_3628 : decode cL_law 3628 = .ok (.invokevirtual 379, 3) := by decide +kernel
theorem dL_law_3631 : decode cL_law 3631 = .ok (.aload_n 2, 1) := by decide +kernel
theorem dL_law_3632 : decode cL_law 3632 = .ok (.invokevirtual 382, 3) := by decide +kernel
theorem dL_law_3635 : decode cL_law 3635 = .ok (.if_icmp .eq 302, 3) := by decide +kernel
theorem dL_law_3638 : decode cL_law 3638 = .ok (.iconst 0, 1) := by decide +kernel
theorem dL_law_3639 : decode cL_law 3639 = .ok (.ireturn, 1) := by decide +kernel
theorem dL_law_3640 : decode cL_law 3640 = .ok (.aload_n 1, 1) := by decide +kernel
theorem dL_law_3641 : decode cL_law 3641 = .ok (.aload_n 0, 1) := by decide +kernel
theorem dL_law_3642 : decode cL_law 3642 = .ok (.iload 5, 2) := by decide +kernel
theorem dL_law_3644 : decode cL_law 3644 = .ok (.iconst 1, 1) := by decide +kernel
theorem dL_law_3645 : decode cL_law 3645 = .ok (.iadd, 1) := by decide +kernel
theorem dL_law_3646 : decode cL_law 3646 = .ok (.iaload, 1) := by decide +kernel
theorem dL_law_3647 : decode cL_law 3647 = .ok (.aload_n 0, 1) := by decide +kernel
theorem dL_law_3648 : decode cL_law 3648 = .ok (.iload 5, 2) := by decide +kernel
theorem dL_law_3650 : decode cL_law 3650 = .ok (.iconst 2, 1) := by decide +kernel
theorem dL_law_3651 : decode cL_law 3651 = .ok (.iadd, 1) := by decide +kernel
theorem dL_law_3652 : decode cL_law 3652 = .ok (.iaload, 1) := by decide +kernel
theorem dL_law_3653 : decode cL_law 3653 = .ok (.aload_n 3, 1) := by decide +kernel
theorem dL_law_3654 : decode cL_law 3654 = .ok (.invokestatic 383, 3) := by decide +kernel
theorem dL_law_3657 : decode cL_law 3657 = .ok (.istore 6, 2) := by decide +kernel
theorem dL_law_3659 : decode cL_law 3659 = .ok (.aload_n 2, 1) := by decide +kernel
theorem dL_law_3660 : decode cL_law 3660 = .ok (.aload_n 0, 1) := by decide +kernel
theorem dL_law_3661 : decode cL_law 3661 = .ok (.iload 5, 2) := by decide +kernel
theorem dL_law_3663 : decode cL_law 3663 = .ok (.iconst 1, 1) := by decide +kernel
theorem dL_law_3664 : decode cL_law 3664 = .ok (.iadd, 1) := by decide +kernel
theorem dL_law_3665 : decode cL_law 3665 = .ok (.iaload, 1) := by decide +kernel
theorem dL_law_3666 : decode cL_law 3666 = .ok (.aload_n 0, 1) := by decide +kernel
theorem dL_law_3667 : decode cL_law 3667 = .ok (.iload 5, 2) := by decide +kernel
theorem dL_law_3669 : decode cL_law 3669 = .ok (.iconst 2, 1) := by decide +kernel
theorem dL_law_3670 : decode cL_law 3670 = .ok (.iadd, 1) := by decide +kernel
theorem dL_law_3671 : decode cL_law 3671 = .ok (.iaload, 1) := by decide +kernel
theorem dL_law_3672 : decode cL_law 3672 = .ok (.invokevirtual 385, 3) := by decide +kernel
theorem dL_law_3675 : decode cL_law 3675 = .ok (.istore 7, 2) := by decide +kernel
theorem dL_law_3677 : decode cL_law 3677 = .ok (.aload_n 2, 1) := by decide +kernel
theorem dL_law_3678 : decode cL_law 3678 = .ok (.invokevirtual 196, 3) := by decide +kernel
theorem dL_law_3681 : decode cL_law 3681 = .ok (.iload 6, 2) := by decide +kernel
theorem dL_law_3683 : decode cL_law 3683 = .ok (.if_icmp .eq 5, 3) := by decide +kernel
theorem dL_law_3686 : decode cL_law 3686 = .ok (.iconst 0, 1) := by decide +kernel
theorem dL_law_3687 : decode cL_law 3687 = .ok (.ireturn, 1) := by decide +kernel
theorem dL_law_3688 : decode cL_law 3688 = .ok (.iload 6, 2) := by decide +kernel
theorem dL_law_3690 : decode cL_law 3690 = .ok (.ifCond .ne 15, 3) := by decide +kernel
theorem dL_law_3693 : decode cL_law 3693 = .ok (.aload_n 3, 1) := by decide +kernel
theorem dL_law_3694 : decode cL_law 3694 = .ok (.iconst 0, 1) := by decide +kernel
theorem dL_law_3695 : decode cL_law 3695 = .ok (.laload, 1) := by decide +kernel
theorem dL_law_3696 : decode cL_law 3696 = .ok (.iload 7, 2) := by decide +kernel
theorem dL_law_3698 : decode cL_law 3698 = .ok (.i2l, 1) := by decide +kernel
theorem dL_law_3699 : decode cL_law 3699 = .ok (.lcmp, 1) := by decide +kernel
theorem dL_law_3700 : decode cL_law 3700 = .ok (.ifCond .eq 5, 3) := by decide +kernel
theorem dL_law_3703 : decode cL_law 3703 = .ok (.iconst 0, 1) := by decide +kernel
theorem dL_law_3704 : decode cL_law 3704 = .ok (.ireturn, 1) := by decide +kernel
theorem dL_law_3705 : decode cL_law 3705 = .ok (.goto 232, 3) := by decide +kernel
theorem dL_law_3708 : decode cL_law 3708 = .ok (.aload_n 1, 1) := by decide +kernel
theorem dL_law_3709 : decode cL_law 3709 = .ok (.aload_n 0, 1) := by decide +kernel
theorem dL_law_3710 : decode cL_law 3710 = .ok (.iload 5, 2) := by decide +kernel
theorem dL_law_3712 : decode cL_law 3712 = .ok (.iconst 1, 1) := by decide +kernel
theorem dL_law_3713 : decode cL_law 3713 = .ok (.iadd, 1) := by decide +kernel
theorem dL_law_3714 : decode cL_law 3714 = .ok (.iaload, 1) := by decide +kernel
theorem dL_law_3715 : decode cL_law 3715 = .ok (.aload_n 3, 1) := by decide +kernel
theorem dL_law_3716 : decode cL_law 3716 = .ok (.invokestatic 386, 3) := by decide +kernel
theorem dL_law_3719 : decode cL_law 3719 = .ok (.istore 6, 2) := by decide +kernel
theorem dL_law_3721 : decode cL_law 3721 = .ok (.aload_n 2, 1) := by decide +kernel
theorem dL_law_3722 : decode cL_law 3722 = .ok (.aload_n 0, 1) := by decide +kernel
theorem dL_law_3723 : decode cL_law 3723 = .ok (.iload 5, 2) := by decide +kernel
theorem dL_law_3725 : decode cL_law 3725 = .ok (.iconst 1, 1) := by decide +kernel
theorem dL_law_3726 : decode cL_law 3726 = .ok (.iadd, 1) := by decide +kernel
theorem dL_law_3727 : decode cL_law 3727 = .ok (.iaload, 1) := by decide +kernel
theorem dL_law_3728 : decode cL_law 3728 = .ok (.invokevirtual 388, 3) := by decide +kernel
theorem dL_law_3731 : decode cL_law 3731 = .ok (.istore 7, 2) := by decide +kernel
theorem dL_law_3733 : decode cL_law 3733 = .ok (.aload_n 2, 1) := by decide +kernel
theorem dL_law_3734 : decode cL_law 3734 = .ok (.invokevirtual 196, 3) := by decide +kernel
theorem dL_law_3737 : decode cL_law 3737 = .ok (.iload 6, 2) := by decide +kernel
theorem dL_law_3739 : decode cL_law 3739 = .ok (.if_icmp .eq 5, 3) := by decide +kernel
theorem dL_law_3742 : decode cL_law 3742 = .ok (.iconst 0, 1) := by decide +kernel
theorem dL_law_3743 : decode cL_law 3743 = .ok (.ireturn, 1) := by decide +kernel
theorem dL_law_3744 : decode cL_law 3744 = .ok (.iload 6, 2) := by decide +kernel
theorem dL_law_3746 : decode cL_law 3746 = .ok (.ifCond .ne 15, 3) := by decide +kernel
theorem dL_law_3749 : decode cL_law 3749 = .ok (.aload_n 3, 1) := by decide +kernel
theorem dL_law_3750 : decode cL_law 3750 = .ok (.iconst 0, 1) := by decide +kernel
theorem dL_law_3751 : decode cL_law 3751 = .ok (.laload, 1) := by decide +kernel
theorem dL_law_3752 : decode cL_law 3752 = .ok (.iload 7, 2) := by decide +kernel
theorem dL_law_3754 : decode cL_law 3754 = .ok (.i2l, 1) := by decide +kernel
theorem dL_law_3755 : decode cL_law 3755 = .ok (.lcmp, 1) := by decide +kernel
theorem dL_law_3756 : decode cL_law 3756 = .ok (.ifCond .eq 5, 3) := by decide +kernel
theorem dL_law_3759 : decode cL_law 3759 = .ok (.iconst 0, 1) := by decide +kernel
theorem dL_law_3760 : decode cL_law 3760 = .ok (.ireturn, 1) := by decide +kernel
theorem dL_law_3761 : decode cL_law 3761 = .ok (.goto 176, 3) := by decide +kernel
theorem dL_law_3764 : decode cL_law 3764 = .ok (.aload_n 1, 1) := by decide +kernel
