theorem dL_law_3329 : decode cL_law 3329 = .ok (.aload_n 0, 1) := by decide +kernel
theorem dL_law_3330 : decode cL_law 3330 = .ok (.iload 4, 2) := by decide +kernel
theorem dL_law_3332 : decode cL_law 3332 = .ok (.iconst 1, 1) := by decide +kernel
theorem dL_law_3333 : decode cL_law 3333 = .ok (.iadd, 1) := by decide +kernel
theorem dL_law_3334 : decode cL_law 3334 = .ok (.iaload, 1) := by decide +kernel
theorem dL_law_3335 : decode cL_law 3335 = .ok (.aload_n 0, 1) := by decide +kernel
theorem dL_law_3336 : decode cL_law 3336 = .ok (.iload 4, 2) := by decide +kernel
theorem dL_law_3338 : decode cL_law 3338 = .ok (.iconst 2, 1) := by decide +kernel
theorem dL_law_3339 : decode cL_law 3339 = .ok (.iadd, 1) := by decide +kernel
theorem dL_law_3340 : decode cL_law 3340 = .ok (.iaload, 1) := by decide +kernel
theorem dL_law_3341 : decode cL_law 3341 = .ok (.invokevirtual 328, 3) := by decide +kernel
theorem dL_law_3344 : decode cL_law 3344 = .ok (.istore 6, 2) := by decide +kernel
theorem dL_law_3346 : decode cL_law 3346 = .ok (.aload_n 2, 1) := by decide +kernel
theorem dL_law_3347 : decode cL_law 3347 = .ok (.invokevirtual 187, 3) := by decide +kernel
theorem dL_law_3350 : decode cL_law 3350 = .ok (.iload 5, 2) := by decide +kernel
theorem dL_law_3352 : decode cL_law 3352 = .ok (.if_icmp .eq 5, 3) := by decide +kernel
theorem dL_law_3355 : decode cL_law 3355 = .ok (.iconst 0, 1) := by decide +kernel
theorem dL_law_3356 : decode cL_law 3356 = .ok (.ireturn, 1) := by decide +kernel
theorem dL_law_3357 : decode cL_law 3357 = .ok (.iload 5, 2) := by decide +kernel
theorem dL_law_3359 : decode cL_law 3359 = .ok (.ifCond .ne 15, 3) := by decide +kernel
theorem dL_law_3362 : decode cL_law 3362 = .ok (.aload_n 3, 1) := by decide +kernel
theorem dL_law_3363 : decode cL_law 3363 = .ok (.iconst 0, 1) := by decide +kernel
theorem dL_law_3364 : decode cL_law 3364 = .ok (.laload, 1) := by decide +kernel
theorem dL_law_3365 : decode cL_law 3365 = .ok (.iload 6, 2) := by decide +kernel
theorem dL_law_3367 : decode cL_law 3367 = .ok (.i2l, 1) := by decide +kernel
theorem dL_law_3368 : decode cL_law 3368 = .ok (.lcmp, 1) := by decide +kernel
theorem dL_law_3369 : decode cL_law 3369 = .ok (.ifCond .eq 5, 3) := by decide +kernel
theorem dL_law_3372 : decode cL_law 3372 = .ok (.iconst 0, 1) := by decide +kernel
theorem dL_law_3373 : decode cL_law 3373 = .ok (.ireturn, 1) := by decide +kernel
theorem dL_law_3374 : decode cL_law 3374 = .ok (.goto 388, 3) := by decide +kernel
theorem dL_law_3377 : decode cL_law 3377 = .ok (.aload_n 1, 1) := by decide +kernel
theorem dL_law_3378 : decode cL_law 3378 = .ok (.aload_n 0, 1) := by decide +kernel
theorem dL_law_3379 : decode cL_law 3379 = .ok (.iload 4, 2) := by decide +kernel
theorem dL_law_3381 : decode cL_law 3381 = .ok (.iconst 1, 1) := by decide +kernel
theorem dL_law_3382 : decode cL_law 3382 = .ok (.iadd, 1) := by decide +kernel
theorem dL_law_3383 : decode cL_law 3383 = .ok (.iaload, 1) := by decide +kernel
theorem dL_law_3384 : decode cL_law 3384 = .ok (.aload_n 0, 1) := by decide +kernel
theorem dL_law_3385 : decode cL_law 3385 = .ok (.iload 4, 2) := by decide +kernel
theorem dL_law_3387 : decode cL_law 3387 = .ok (.iconst 2, 1) := by decide +kernel
theorem dL_law_3388 : decode cL_law 3388 = .ok (.iadd, 1) := by decide +kernel
theorem dL_law_3389 : decode cL_law 3389 = .ok (.iaload, 1) := by decide +kernel
theorem dL_law_3390 : decode cL_law 3390 = .ok (.aload_n 0, 1) := by decide +kernel
theorem dL_law_3391 : decode cL_law 3391 = .ok (.iload 4, 2) := by decide +kernel
theorem dL_law_3393 : decode cL_law 3393 = .ok (.iconst 3, 1) := by decide +kernel
theorem dL_law_3394 : decode cL_law 3394 = .ok (.iadd, 1) := by decide +kernel
theorem dL_law_3395 : decode cL_law 3395 = .ok (.iaload, 1) := by decide +kernel
theorem dL_law_3396 : decode cL_law 3396 = .ok (.aload_n 0, 1) := by decide +kernel
theorem dL_law_3397 : decode cL_law 3397 = .ok (.iload 4, 2) := by decide +kernel
theorem dL_law_3399 : decode cL_law 3399 = .ok (.iconst 4, 1) := by decide +kernel
theorem dL_law_3400 : decode cL_law 3400 = .ok (.iadd, 1) := by decide +kernel
theorem dL_law_3401 : decode cL_law 3401 = .ok (.iaload, 1) := by decide +kernel
theorem dL_law_3402 : decode cL_law 3402 = .ok (.aload_n 3, 1) := by decide +kernel
theorem dL_law_3403 : decode cL_law 3403 = .ok (.invokestatic 329, 3) := by decide +kernel
theorem dL_law_3406 : decode cL_law 3406 = .ok (.istore 5, 2) := by decide +kernel
theorem dL_law_3408 : decode cL_law 3408 = .ok (.aload_n 2, 1) := by decide +kernel
theorem dL_law_3409 : decode cL_law 3409 = .ok (.aload_n 0, 1) := by decide +kernel
theorem dL_law_3410 : decode cL_law 3410 = .ok (.iload 4, 2) := by decide +kernel
theorem dL_law_3412 : decode cL_law 3412 = .ok (.iconst 1, 1) := by decide +kernel
theorem dL_law_3413 : decode cL_law 3413 = .ok (.iadd, 1) := by decide +kernel
theorem dL_law_3414 : decode cL_law 3414 = .ok (.iaload, 1) := by decide +kernel
theorem dL_law_3415 : decode cL_law 3415 = .ok (.aload_n 0, 1) := by decide +kernel
theorem dL_law_3416 : decode cL_law 3416 = .ok (.iload 4, 2) := by decide +kernel
theorem dL_law_3418 : decode cL_law 3418 = .ok (.iconst 2, 1) := by decide +kernel
theorem dL_law_3419 : decode cL_law 3419 = .ok (.iadd, 1) := by decide +kernel
theorem dL_law_3420 : decode cL_law 3420 = .ok (.iaload, 1) := by decide +kernel
theorem dL_law_3421 : decode cL_law 3421 = .ok (.aload_n 0, 1) := by decide +kernel
theorem dL_law_3422 : decode cL_law 3422 = .ok (.iload 4, 2) := by decide +kernel
theorem dL_law_3424 : decode cL_law 3424 = .ok (.iconst 3, 1) := by decide +kernel
theorem dL_law_3425 : decode cL_law 3425 = .ok (.iadd, 1) := by decide +kernel
theorem dL_law_3426 : decode cL_law 3426 = .ok (.iaload, 1) := by decide +kernel
theorem dL_law_3427 : decode cL_law 3427 = .ok (.aload_n 0, 1) := by decide +kernel
theorem dL_law_3428 : decode cL_law 3428 = .ok (.iload 4, 2) := by decide +kernel
theorem dL_law_3430 : decode cL_law 3430 = .ok (.iconst 4, 1) := by decide +kernel
theorem dL_law_3431 : decode cL_law 3431 = .ok (.iadd, 1) := by decide +kernel
theorem dL_law_3432 : decode cL_law 3432 = .ok (.iaload, 1) := by decide +kernel
theorem dL_law_3433 : decode cL_law 3433 = .ok (.invokevirtual 331, 3) := by decide +kernel
theorem dL_law_3436 : decode cL_law 3436 = .ok (.istore 6, 2) := by decide +kernel
theorem dL_law_3438 : decode cL_law 3438 = .ok (.aload_n 2, 1) := by decide +kernel
theorem dL_law_3439 : decode cL_law 3439 = .ok (.invokevirtual 187, 3) := by decide +kernel
theorem dL_law_3442 : decode cL_law 3442 = .ok (.iload 5, 2) := by decide +kernel
theorem dL_law_3444 : decode cL_law 3444 = .ok (.if_icmp .eq 5, 3) := by decide +kernel
theorem dL_law_3447 : decode cL_law 3447 = .ok (.iconst 0, 1) := by decide +kernel
theorem dL_law_3448 : decode cL_law 3448 = .ok (.ireturn, 1) := by decide +kernel
theorem dL_law_3449 : decode cL_law 3449 = .ok (.iload 5, 2) := by decide +kernel
theorem dL_law_3451 : decode cL_law 3451 = .ok (.ifCond .ne 15, 3) := by decide +kernel
theorem dL_law_3454 : decode cL_law 3454 = .ok (.aload_n 3, 1) := by decide +kernel
theorem dL_law_3455 : decode cL_law 3455 = .ok (.iconst 0, 1) := by decide +kernel
theorem dL_law_3456 : decode cL_law 3456 = .ok (.laload, 1) := by decide +kernel
theorem dL_law_3457 : decode cL_law 3457 = .ok (.iload 6, 2) := by decide +kernel
theorem dL_law_3459 : decode cL_law 3459 = .ok (.i2l, 1) := by decide +kernel
theorem dL_law_3460 : decode cL_law 3460 = .ok (.lcmp, 1) := by decide +kernel
theorem dL_law_3461 : decode cL_law 3461 = .ok (.ifCond .eq 5, 3) := by decide +kernel
theorem dL_law_3464 : decode cL_law 3464 = .ok (.iconst 0, 1) := by decide +kernel
theorem dL_law_3465 : decode cL_law 3465 = .ok (.ireturn, 1) := by decide +kernel
theorem dL_law_3466 : decode cL_law 3466 = .ok (.goto 296, 3) := by decide +kernel
theorem dL_law_3469 : decode cL_law 3469 = .ok (.aload_n 1, 1) := by decide +kernel
theorem dL_law_3470 : decode cL_law 3470 = .ok (.aload_n 0, 1) := by decide +kernel
theorem dL_law_3471 : decode cL_law 3471 = .ok (.iload 4, 2) := by decide +kernel
theorem dL_law_3473 : decode cL_law 3473 = .ok (.iconst 1, 1) := by decide +kernel
theorem dL_law_3474 : decode cL_law 3474 = .ok (.iadd, 1) := by decide +kernel
theorem dL_law_3475 : decode cL_law 3475 = .ok (.iaload, 1) := by decide +kernel
theorem dL_law_3476 : decode cL_law 3476 = .ok (.aload_n 0, 1) := by decide +kernel
theorem dL_law_3477 : decode cL_law 3477 = .ok (.iload 4, 2) := by decide +kernel
theorem dL_law_3479 : decode cL_law 3479 = .ok (.iconst 2, 1) := by decide +kernel
theorem dL_law_3480 : decode cL_law 3480 = .ok (.iadd, 1) := by decide +kernel
theorem dL_law_3481 : decode cL_law 3481 = .ok (.iaload, 1) := by decide +kernel
theorem dL_law_3482 : decode cL_law 3482 = .ok (.aload_n 3, 1) := by decide +kernel
theorem dL_law_3483 : decode cL_law 3483 = .ok (.invokestatic 332, 3) := by decide +kernel
theorem dL_law_3486 : decode cL_law 3486 = .ok (.istore 5, 2) := by decide +kernel
theorem dL_law_3488 : decode cL_law 3488 = .ok (.aload_n 2, 1) := by decide +kernel
theorem dL_law_3489 : decode cL_law 3489 = .ok (.aload_n 0, 1) := by decide +kernel
theorem dL_law_3490 : decode cL_law 3490 = .ok (.iload 4, 2) := by decide +kernel
theorem dL_law_3492 : decode cL_law 3492 = .ok (.iconst 1, 1) := by decide +kernel
theorem dL_law_3493 : decode cL_law 3493 = .ok (.iadd, 1) := by decide +kernel
theorem dL_law_3494 : decode cL_law 3494 = .ok (.iaload, 1) := by decide +kernel
theorem dL_law_3495 : decode cL_law 3495 = .ok (.aload_n 0, 1) := by decide +kernel
theorem dL_law_3496 : decode cL_law 3496 = .ok (.iload 4, 2) := by decide +kernel
theorem dL_law_3498 : decode cL_law 3498 = .ok (.iconst 2, 1) := by decide +kernel
theorem dL_law_3499 : decode cL_law 3499 = .ok (.iadd, 1) := by decide +kernel
theorem dL_law_3500 : decode cL_law 3500 = .ok (.iaload, 1) := by decide +kernel
theorem dL_law_3501 : decode cL_law 3501 = .ok (.invokevirtual 334, 3) := by decide +kernel
theorem dL_law_3504 : decode cL_law 3504 = .ok (.istore 6, 2) := by decide +kernel
theorem dL_law_3506 : decode cL_law 3506 = .ok (.aload_n 2, 1) := by decide +kernel
theorem dL_law_3507 : decode cL_law 3507 = .ok (.invokevirtual 187, 3) := by decide +kernel
theorem dL_law_3510 : decode cL_law 3510 = .ok (.iload 5, 2) := by decide +kernel
theorem dL_law_3512 : decode cL_law 3512 = .ok (.if_icmp .eq 5, 3) := by decide +kernel
theorem dL_law_3515 : decode cL_law 3515 = .ok (.iconst 0, 1) := by decide +kernel
theorem dL_law_3516 : decode cL_law 3516 = .ok (.ireturn, 1) := by decide +kernel
theorem dL_law_3517 : decode cL_law 3517 = .ok (.iload 5, 2) := by decide +kernel
theorem dL_law_3519 : decode cL_law 3519 = .ok (.ifCond .ne 15, 3) := by decide +kernel
theorem dL_law_3522 : decode cL_law 3522 = .ok (.aload_n 3, 1) := by decide +kernel
theorem dL_law_3523 : decode cL_law 3523 = .ok (.iconst 0, 1) := by decide +kernel
theorem dL_law_3524 : decode cL_law 3524 = .ok (.laload, 1) := by decide +kernel
theorem dL_law_3525 : decode cL_law 3525 = .ok (.iload 6, 2) := by decide +kernel
theorem dL_law_3527 : decode cL_law 3527 = .ok (.i2l, 1) := by decide +kernel
theorem dL_law_3528 : decode cL_law 3528 = .ok (.lcmp, 1) := by decide +kernel
theorem dL_law_3529 : decode cL_law 3529 = .ok (.ifCond .eq 5, 3) := by decide +kernel
theorem dL_law_3532 : decode cL_law 3532 = .ok (.iconst 0, 1) := by decide +kernel
theorem dL_law_3533 : decode cL_law 3533 = .ok (.ireturn, 1) := by decide +kernel
theorem dL_law_3534 : decode cL_law 3534 = .ok (.goto 228, 3) := by decide +kernel
theorem dL_law_3537 : decode cL_law 3537 = .ok (.aload_n 1, 1) := by decide +kernel
theorem dL_law_3538 : decode cL_law 3538 = .ok (.invokevirtual 335, 3) := by decide +kernel
theorem dL_law_3541 : decode cL_law 3541 = .ok (.aload_n 2, 1) := by decide +kernel
theorem dL_law_3542 : decode cL_law 3542 = .ok (.invokevirtual 338, 3) := by decide +kernel
theorem dL_law_3545 : decode cL_law 3545 = .ok (.if_icmp .eq 217, 3) := by decide +kernel
theorem dL_law_3548 : decode cL_law 3548 = .ok (.iconst 0, 1) := by decide +kernel
theorem dL_law_3549 : decode cL_law 3549 = .ok (.ireturn, 1) := by decide +kernel
theorem dL_law_3550 : decode cL_law 3550 = .ok (.aload_n 1, 1) := by decide +kernel
theorem dL_law_3551 : decode cL_law 3551 = .ok (.aload_n 0, 1) := by decide +kernel
theorem dL_law_3552 : decode cL_law 3552 = .ok (.iload 4, 2) := by decide +kernel
theorem dL_law_3554 : decode cL_law 3554 = .ok (.iconst 1, 1) := by decide +kernel
theorem dL_law_3555 : decode cL_law 3555 = .ok (.iadd, 1) := by decide +kernel
theorem dL_law_3556 : decode cL_law 3556 = .ok (.iaload, 1) := by decide +kernel
theorem dL_law_3557 : decode cL_law 3557 = .ok (.aload_n 0, 1) := by decide +kernel
theorem dL_law_3558 : decode cL_law 3558 = .ok (.iload 4, 2) := by decide +kernel
theorem dL_law_3560 : decode cL_law 3560 = .ok (.iconst 2, 1) := by decide +kernel
theorem dL_law_3561 : decode cL_law 3561 = .ok (.iadd, 1) := by decide +kernel
theorem dL_law_3562 : decode cL_law 3562 = .ok (.iaload, 1) := by decide +kernel
theorem dL_law_3563 : decode cL_law 3563 = .ok (.aload_n 3, 1) := by decide +kernel
theorem dL_law_3564 : decode cL_law 3564 = .ok (.invokestatic 339, 3) := by decide +kernel
theorem dL_law_3567 : decode cL_law 3567 = .ok (.istore 5, 2) := by decide +kernel
theorem dL_law_3569 : decode cL_law 3569 = .ok (.aload_n 2, 1) := by decide +kernel
theorem dL_law_3570 : decode cL_law 3570 = .ok (.aload_n 0, 1) := by decide +kernel
theorem dL_law_3571 : decode cL_law 3571 = .ok (.iload 4, 2) := by decide +kernel
theorem dL_law_3573 : decode cL_law 3573 = .ok (.iconst 1, 1) := by decide +kernel
theorem dL_law_3574 : decode cL_law 3574 = .ok (.iadd, 1) := by decide +kernel
theorem dL_law_3575 : decode cL_law 3575 = .ok (.iaload, 1) := by decide +kernel
theorem dL_law_3576 : decode cL_law 3576 = .ok (.aload_n 0, 1) := by decide +kernel
theorem dL_law_3577 : decode cL_law 3577 = .ok (.iload 4, 2) := by decide +kernel
theorem dL_law_3579 : decode cL_law 3579 = .ok (.iconst 2, 1) := by decide +kernel
theorem dL_law_3580 : decode cL_law 3580 = .ok (.iadd, 1) := by decide +kernel
theorem dL_law_3581 : decode cL_law 3581 = .ok (.iaload, 1) := by decide +kernel
theorem dL_law_3582 : decode cL_law 3582 = .ok (.invokevirtual 341, 3) := by decide +kernel
theorem dL_law_3585 : decode cL_law 3585 = .ok (.istore 6, 2) := by decide +kernel
theorem dL_law_3587 : decode cL_law 3587 = .ok (.aload_n 2, 1) := by decide +kernel
theorem dL_law_3588 : decode cL_law 3588 = .ok (.invokevirtual 187, 3) := by decide +kernel
theorem dL_law_3591 : decode cL_law 3591 = .ok (.iload 5, 2) := by decide +kernel
theorem dL_law_3593 : decode cL_law 3593 = .ok (.if_icmp .eq 5, 3) := by decide +kernel
theorem dL_law_3596 : decode cL_law 3596 = .ok (.iconst 0, 1) := by decide +kernel
theorem dL_law_3597 : decode cL_law 3597 = .ok (.ireturn, 1) := by decide +kernel
theorem dL_law_3598 : decode cL_law 3598 = .ok (.iload 5, 2) := by decide +kernel
theorem dL_law_3600 : decode cL_law 3600 = .ok (.ifCond .ne 15, 3) := by decide +kernel
theorem dL_law_3603 : decode cL_law 3603 = .ok (.aload_n 3, 1) := by decide +kernel
theorem dL_law_3604 : decode cL_law 3604 = .ok (.iconst 0, 1) := by decide +kernel
theorem dL_law_3605 : decode cL_law 3605 = .ok (.laload, 1) := by decide +kernel
theorem dL_law_3606 : decode cL_law 3606 = .ok (.iload 6, 2) := by decide +kernel
theorem dL_law_3608 : decode cL_law 3608 = .ok (.i2l, 1) := by decide +kernel
theorem dL_law_3609 : decode cL_law 3609 = .ok (.lcmp, 1) := by decide +kernel
theorem dL_law_3610 : decode cL_law 3610 = .ok (.ifCond .eq 5, 3) := by decide +kernel
theorem dL_law_3613 : decode cL_law 3613 = .ok (.iconst 0, 1) := by decide +kernel
theorem dL_law_3614 : decode cL_law 3614 = .ok (.ireturn, 1) := by decide +kernel
theorem dL_law_3615 : decode cL_law 3615 = .ok (.goto 147, 3) := by decide +kernel
theorem dL_law_3618 : decode cL_law 3618 = .ok (.aload_n 1, 1) := by decide +kernel
theorem dL_law_3619 : decode cL_law 3619 = .ok (.aload_n 0, 1) := by decide +kernel
theorem dL_law_3620 : decode cL_law 3620 = .ok (.iload 4, 2) := by decide +kernel
theorem dL_law_3622 : decode cL_law 3622 = .ok (.iconst 1, 1) := by decide +kernel
theorem dL_law_3623 : decode cL_law 3623 = .ok (.iadd, 1) := by decide +kernel
theorem dL_law_3624 : decode cL_law 3624 = .ok (.iaload, 1) := by decide +kernel
theorem dL_law_3625 : decode cL_law 3625 = .ok (.aload_n 0, 1) := by decide +kernel
theorem dL_law_3626 : decode cL_law 3626 = .ok (.iload 4, 2) := by decide +kernel
theorem dL_law_3628 : decode cL_law 3628 = .ok (.iconst 2, 1) := by decide +kernel
theorem dL_law_3629 : decode cL_law 3629 = .ok (.iadd, 1) := by decide +kernel
theorem dL_law_3630 : decode cL_law 3630 = .ok (.iaload, 1) := by decide +kernel
theorem dL_law_3631 : decode cL_law 3631 = .ok (.aload_n 0, 1) := by decide +kernel
theorem dL_law_3632 : decode cL_law 3632 = .ok (.iload 4, 2) := by decide +kernel
theorem dL_law_3634 : decode cL_law 3634 = .ok (.iconst 3, 1) := by decide +kernel
theorem dL_law_3635 : decode cL_law 3635 = .ok (.iadd, 1) := by decide +kernel
theorem dL_law_3636 : decode cL_law 3636 = .ok (.iaload, 1) := by decide +kernel
theorem dL_law_3637 : decode cL_law 3637 = .ok (.aload_n 3, 1) := by decide +kernel
theorem dL_law_3638 : decode cL_law 3638 = .ok (.invokestatic 342, 3) := by decide +kernel
theorem dL_law_3641 : decode cL_law 3641 = .ok (.istore 5, 2) := by decide +kernel
theorem dL_law_3643 : decode cL_law 3643 = .ok (.aload_n 2, 1) := by decide +kernel
theorem dL_law_3644 : decode cL_law 3644 = .ok (.aload_n 0, 1) := by decide +kernel
theorem dL_law_3645 : decode cL_law 3645 = .ok (.iload 4, 2) := by decide +kernel
theorem dL_law_3647 : decode cL_law 3647 = .ok (.iconst 1, 1) := by decide +kernel
theorem dL_law_3648 : decode cL_law 3648 = .ok (.iadd, 1) := by decide +kernel
theorem dL_law_3649 : decode cL_law 3649 = .ok (.iaload, 1) := by decide +kernel
theorem dL_law_3650 : decode cL_law 3650 = .ok (.aload_n 0, 1) := by decide +kernel
theorem dL_law_3651 : decode cL_law 3651 = .ok (.iload 4, 2) := by decide +kernel
theorem dL_law_3653 : decode cL_law 3653 = .ok (.iconst 2, 1) := by decide +kernel
theorem dL_law_3654 : decode cL_law 3654 = .ok (.iadd, 1) := by decide +kernel
theorem dL_law_3655 : decode cL_law 3655 = .ok (.iaload, 1) := by decide +kernel
theorem dL_law_3656 : decode cL_law 3656 = .ok (.aload_n 0, 1) := by decide +kernel
theorem dL_law_3657 : decode cL_law 3657 = .ok (.iload 4, 2) := by decide +kernel
theorem dL_law_3659 : decode cL_law 3659 = .ok (.iconst 3, 1) := by decide +kernel
theorem dL_law_3660 : decode cL_law 3660 = .ok (.iadd, 1) := by decide +kernel
theorem dL_law_3661 : decode cL_law 3661 = .ok (.iaload, 1) := by decide +kernel
theorem dL_law_3662 : decode cL_law 3662 = .ok (.invokevirtual 344, 3) := by decide +kernel
theorem dL_law_3665 : decode cL_law 3665 = .ok (.istore 6, 2) := by decide +kernel
theorem dL_law_3667 : decode cL_law 3667 = .ok (.aload_n 2, 1) := by decide +kernel
theorem dL_law_3668 : decode cL_law 3668 = .ok (.invokevirtual 187, 3) := by decide +kernel
theorem dL_law_3671 : decode cL_law 3671 = .ok (.iload 5, 2) := by decide +kernel
theorem dL_law_3673 : decode cL_law 3673 = .ok (.if_icmp .eq 5, 3) := by decide +kernel
theorem dL_law_3676 : decode cL_law 3676 = .ok (.iconst 0, 1) := by decide +kernel
theorem dL_law_3677 : decode cL_law 3677 = .ok (.ireturn, 1) := by decide +kernel
theorem dL_law_3678 : decode cL_law 3678 = .ok (.iload 5, 2) := by decide +kernel
theorem dL_law_3680 : decode cL_law 3680 = .ok (.ifCond .ne 15, 3) := by decide +kernel
theorem dL_law_3683 : decode cL_law 3683 = .ok (.aload_n 3, 1) := by decide +kernel
theorem dL_law_3684 : decode cL_law 3684 = .ok (.iconst 0, 1) := by decide +kernel
theorem dL_law_3685 : decode cL_law 3685 = .ok (.laload, 1) := by decide +kernel
theorem dL_law_3686 : decode cL_law 3686 = .ok (.iload 6, 2) := by decide +kernel
theorem dL_law_3688 : decode cL_law 3688 = .ok (.i2l, 1) := by decide +kernel
theorem dL_law_3689 : decode cL_law 3689 = .ok (.lcmp, 1) := by decide +kernel
theorem dL_law_3690 : decode cL_law 3690 = .ok (.ifCond .eq 5, 3) := by decide +kernel
theorem dL_law_3693 : decode cL_law 3693 = .ok (.iconst 0, 1) := by decide +kernel
theorem dL_law_3694 : decode cL_law 3694 = .ok (.ireturn, 1) := by decide +kernel
theorem dL_law_3695 : decode cL_law 3695 = .ok (.goto 67, 3) := by decide +kernel
theorem dL_law_3698 : decode cL_law 3698 = .ok (.aload_n 1, 1) := by decide +kernel
theorem dL_law_3699 : decode cL_law 3699 = .ok (.invokevirtual 345, 3) := by decide +kernel
theorem dL_law_3702 : decode cL_law 3702 = .ok (.aload_n 2, 1) := by decide +kernel
theorem dL_law_3703 : decode cL_law 3703 = .ok (.invokevirtual 348, 3) := by decide +kernel
theorem dL_law_3706 : decode cL_law 3706 = .ok (.if_icmp .eq 56, 3) := by decide +kernel
theorem dL_law_3709 : decode cL_law 3709 = .ok (.iconst 0, 1) := by decide +kernel
theorem dL_law_3710 : decode cL_law 3710 = .ok (.ireturn, 1) := by decide +kernel
theorem dL_law_3711 : decode cL_law 3711 = .ok (.aload_n 1, 1) := by decide +kernel
theorem dL_law_3712 : decode cL_law 3712 = .ok (.invokevirtual 349, 3) := by decide +kernel
theorem dL_law_3715 : decode cL_law 3715 = .ok (.aload_n 2, 1) := by decide +kernel
theorem dL_law_3716 : decode cL_law 3716 = .ok (.invokevirtual 352, 3) := by decide +kernel
theorem dL_law_3719 : decode cL_law 3719 = .ok (.if_icmp .eq 43, 3) := by decide +kernel
theorem dL_law_3722 : decode cL_law 3722 = .ok (.iconst 0, 1) := by decide +kernel
theorem dL_law_3723 : decode cL_law 3723 = .ok (.ireturn, 1) := by decide +kernel
theorem dL_law_3724 : decode cL_law 3724 = .ok (.aload_n 1, 1) := by decide +kernel
theorem dL_law_3725 : decode cL_law 3725 = .ok (.invokevirtual 353, 3) := by decide +kernel
theorem dL_law_3728 : decode cL_law 3728 = .ok (.aload_n 2, 1) := by decide +kernel
theorem dL_law_3729 : decode cL_law 3729 = .ok (.invokevirtual 356, 3) := by decide +kernel
theorem dL_law_3732 : decode cL_law 3732 = .ok (.if_icmp .eq 30, 3) := by decide +kernel
theorem dL_law_3735 : decode cL_law 3735 = .ok (.iconst 0, 1) := by decide +kernel
theorem dL_law_3736 : decode cL_law 3736 = .ok (.ireturn, 1) := by decide +kernel
theorem dL_law_3737 : decode cL_law 3737 = .ok (.aload_n 1, 1) := by decide +kernel
theorem dL_law_3738 : decode cL_law 3738 = .ok (.aload_n 0, 1) := by decide +kernel
theorem dL_law_3739 : decode cL_law 3739 = .ok (.iload 4, 2) := by decide +kernel
theorem dL_law_3741 : decode cL_law 3741 = .ok (.iconst 1, 1) := by decide +kernel
theorem dL_law_3742 : decode cL_law 3742 = .ok (.iadd, 1) := by decide +kernel
theorem dL_law_3743 : decode cL_law 3743 = .ok (.iaload, 1) := by decide +kernel
theorem dL_law_3744 : decode cL_law 3744 = .ok (.invokevirtual 357, 3) := by decide +kernel
theorem dL_law_3747 : decode cL_law 3747 = .ok (.aload_n 2, 1) := by decide +kernel
theorem dL_law_3748 : decode cL_law 3748 = .ok (.aload_n 0, 1) := by decide +kernel
theorem dL_law_3749 : decode cL_law 3749 = .ok (.iload 4, 2) := by decide +kernel
theorem dL_law_3751 : decode cL_law 3751 = .ok (.iconst 1, 1) := by decide +kernel
theorem dL_law_3752 : decode cL_law 3752 = .ok (.iadd, 1) := by decide +kernel
theorem dL_law_3753 : decode cL_law 3753 = .ok (.iaload, 1) := by decide +kernel
theorem dL_law_3754 : decode cL_law 3754 = .ok (.invokevirtual 360, 3) := by decide +kernel
theorem dL_law_3757 : decode cL_law 3757 = .ok (.if_icmp .eq 5, 3) := by decide +kernel
theorem dL_law_3760 : decode cL_law 3760 = .ok (.iconst 0, 1) := by decide +kernel
theorem dL_law_3761 : decode cL_law 3761 = .ok (.ireturn, 1) := by decide +kernel
theorem dL_law_3762 : decode cL_law 3762 = .ok (.iinc 4 8, 3) := by decide +kernel
theorem dL_law_3765 : decode cL_law 3765 = .ok (.goto (-3742), 3) := by decide +kernel
theorem dL_law_3768 : decode cL_law 3768 = .ok (.iconst 1, 1) := by decide +kernel
theorem dL_law_3769 : decode cL_law 3769 = .ok (.ireturn, 1) := by decide +kernel
