theorem zd_Law_law_463 : decode zc_Law_law 463 = .ok (.aload_n 2, 1) := by decide +kernel
theorem zd_Law_law_464 : decode zc_Law_law 464 = .ok (.invokevirtual 97, 3) := by decide +kernel
theorem zd_Law_law_467 : decode zc_Law_law 467 = .ok (.istore 6, 2) := by decide +kernel
theorem zd_Law_law_469 : decode zc_Law_law 469 = .ok (.aload_n 2, 1) := by decide +kernel
theorem zd_Law_law_470 : decode zc_Law_law 470 = .ok (.invokevirtual 75, 3) := by decide +kernel
theorem zd_Law_law_473 : decode zc_Law_law 473 = .ok (.iload 5, 2) := by decide +kernel
theorem zd_Law_law_475 : decode zc_Law_law 475 = .ok (.if_icmp .eq 5, 3) := by decide +kernel
theorem zd_Law_law_478 : decode zc_Law_law 478 = .ok (.iconst 0, 1) := by decide +kernel
theorem zd_Law_law_479 : decode zc_Law_law 479 = .ok (.ireturn, 1) := by decide +kernel
theorem zd_Law_law_480 : decode zc_Law_law 480 = .ok (.iload 5, 2) := by decide +kernel
theorem zd_Law_law_482 : decode zc_Law_law 482 = .ok (.ifCond .ne 15, 3) := by decide +kernel
theorem zd_Law_law_485 : decode zc_Law_law 485 = .ok (.aload_n 3, 1) := by decide +kernel
theorem zd_Law_law_486 : decode zc_Law_law 486 = .ok (.iconst 0, 1) := by decide +kernel
theorem zd_Law_law_487 : decode zc_Law_law 487 = .ok (.laload, 1) := by decide +kernel
theorem zd_Law_law_488 : decode zc_Law_law 488 = .ok (.iload 6, 2) := by decide +kernel
theorem zd_Law_law_490 : decode zc_Law_law 490 = .ok (.i2l, 1) := by decide +kernel
theorem zd_Law_law_491 : decode zc_Law_law 491 = .ok (.lcmp, 1) := by decide +kernel
theorem zd_Law_law_492 : decode zc_Law_law 492 = .ok (.ifCond .eq 5, 3) := by decide +kernel
theorem zd_Law_law_495 : decode zc_Law_law 495 = .ok (.iconst 0, 1) := by decide +kernel
theorem zd_Law_law_496 : decode zc_Law_law 496 = .ok (.ireturn, 1) := by decide +kernel
theorem zd_Law_law_497 : decode zc_Law_law 497 = .ok (.goto 377, 3) := by decide +kernel
theorem zd_Law_law_500 : decode zc_Law_law 500 = .ok (.aload_n 1, 1) := by decide +kernel
theorem zd_Law_law_501 : decode zc_Law_law 501 = .ok (.aload_n 0, 1) := by decide +kernel
theorem zd_Law_law_502 : decode zc_Law_law 502 = .ok (.iload 4, 2) := by decide +kernel
theorem zd_Law_law_504 : decode zc_Law_law 504 = .ok (.iconst 1, 1) := by decide +kernel
theorem zd_Law_law_505 : decode zc_Law_law 505 = .ok (.iadd, 1) := by decide +kernel
theorem zd_Law_law_506 : decode zc_Law_law 506 = .ok (.iaload, 1) := by decide +kernel
theorem zd_Law_law_507 : decode zc_Law_law 507 = .ok (.aload_n 3, 1) := by decide +kernel
theorem zd_Law_law_508 : decode zc_Law_law 508 = .ok (.invokestatic 98, 3) := by decide +kernel
theorem zd_Law_law_511 : decode zc_Law_law 511 = .ok (.istore 5, 2) := by decide +kernel
theorem zd_Law_law_513 : decode zc_Law_law 513 = .ok (.aload_n 2, 1) := by decide +kernel
theorem zd_Law_law_514 : decode zc_Law_law 514 = .ok (.aload_n 0, 1) := by decide +kernel
theorem zd_Law_law_515 : decode zc_Law_law 515 = .ok (.iload 4, 2) := by decide +kernel
theorem zd_Law_law_517 : decode zc_Law_law 517 = .ok (.iconst 1, 1) := by decide +kernel
theorem zd_Law_law_518 : decode zc_Law_law 518 = .ok (.iadd, 1) := by decide +kernel
theorem zd_Law_law_519 : decode zc_Law_law 519 = .ok (.iaload, 1) := by decide +kernel
theorem zd_Law_law_520 : decode zc_Law_law 520 = .ok (.invokevirtual 100, 3) := by decide +kernel
theorem zd_Law_law_523 : decode zc_Law_law 523 = .ok (.istore 6, 2) := by decide +kernel
theorem zd_Law_law_525 : decode zc_Law_law 525 = .ok (.aload_n 2, 1) := by decide +kernel
theorem zd_Law_law_526 : decode zc_Law_law 526 = .ok (.invokevirtual 75, 3) := by decide +kernel
theorem zd_Law_law_529 : decode zc_Law_law 529 = .ok (.iload 5, 2) := by decide +kernel
theorem zd_Law_law_531 : decode zc_Law_law 531 = .ok (.if_icmp .eq 5, 3) := by decide +kernel
theorem zd_Law_law_534 : decode zc_Law_law 534 = .ok (.iconst 0, 1) := by decide +kernel
theorem zd_Law_law_535 : decode zc_Law_law 535 = .ok (.ireturn, 1) := by decide +kernel
theorem zd_Law_law_536 : decode zc_Law_law 536 = .ok (.iload 5, 2) := by decide +kernel
theorem zd_Law_law_538 : decode zc_Law_law 538 = .ok (.ifCond .ne 15, 3) := by decide +kernel
theorem zd_Law_law_541 : decode zc_Law_law 541 = .ok (.aload_n 3, 1) := by decide +kernel
theorem zd_Law_law_542 : decode zc_Law_law 542 = .ok (.iconst 0, 1) := by decide +kernel
theorem zd_Law_law_543 : decode zc_Law_law 543 = .ok (.laload, 1) := by decide +kernel
theorem zd_Law_law_544 : decode zc_Law_law 544 = .ok (.iload 6, 2) := by decide +kernel
theorem zd_Law_law_546 : decode zc_Law_law 546 = .ok (.i2l, 1) := by decide +kernel
theorem zd_Law_law_547 : decode zc_Law_law 547 = .ok (.lcmp, 1) := by decide +kernel
theorem zd_Law_law_548 : decode zc_Law_law 548 = .ok (.ifCond .eq 5, 3) := by decide +kernel
theorem zd_Law_law_551 : decode zc_Law_law 551 = .ok (.iconst 0, 1) := by decide +kernel
theorem zd_Law_law_552 : decode zc_Law_law 552 = .ok (.ireturn, 1) := by decide +kernel
theorem zd_Law_law_553 : decode zc_Law_law 553 = .ok (.goto 321, 3) := by decide +kernel
theorem zd_Law_law_556 : decode zc_Law_law 556 = .ok (.aload_n 1, 1) := by decide +kernel
theorem zd_Law_law_557 : decode zc_Law_law 557 = .ok (.aload_n 0, 1) := by decide +kernel
theorem zd_Law_law_558 : decode zc_Law_law 558 = .ok (.iload 4, 2) := by decide +kernel
theorem zd_Law_law_560 : decode zc_Law_law 560 = .ok (.iconst 1, 1) := by decide +kernel
