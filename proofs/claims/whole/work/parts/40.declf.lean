theorem zd_Law_law_561 : decode zc_Law_law 561 = .ok (.iadd, 1) := by decide +kernel
theorem zd_Law_law_562 : decode zc_Law_law 562 = .ok (.iaload, 1) := by decide +kernel
theorem zd_Law_law_563 : decode zc_Law_law 563 = .ok (.aload_n 0, 1) := by decide +kernel
theorem zd_Law_law_564 : decode zc_Law_law 564 = .ok (.iload 4, 2) := by decide +kernel
theorem zd_Law_law_566 : decode zc_Law_law 566 = .ok (.iconst 2, 1) := by decide +kernel
theorem zd_Law_law_567 : decode zc_Law_law 567 = .ok (.iadd, 1) := by decide +kernel
theorem zd_Law_law_568 : decode zc_Law_law 568 = .ok (.iaload, 1) := by decide +kernel
theorem zd_Law_law_569 : decode zc_Law_law 569 = .ok (.aload_n 3, 1) := by decide +kernel
theorem zd_Law_law_570 : decode zc_Law_law 570 = .ok (.invokestatic 101, 3) := by decide +kernel
theorem zd_Law_law_573 : decode zc_Law_law 573 = .ok (.istore 5, 2) := by decide +kernel
theorem zd_Law_law_575 : decode zc_Law_law 575 = .ok (.aload_n 2, 1) := by decide +kernel
theorem zd_Law_law_576 : decode zc_Law_law 576 = .ok (.aload_n 0, 1) := by decide +kernel
theorem zd_Law_law_577 : decode zc_Law_law 577 = .ok (.iload 4, 2) := by decide +kernel
theorem zd_Law_law_579 : decode zc_Law_law 579 = .ok (.iconst 1, 1) := by decide +kernel
theorem zd_Law_law_580 : decode zc_Law_law 580 = .ok (.iadd, 1) := by decide +kernel
theorem zd_Law_law_581 : decode zc_Law_law 581 = .ok (.iaload, 1) := by decide +kernel
theorem zd_Law_law_582 : decode zc_Law_law 582 = .ok (.aload_n 0, 1) := by decide +kernel
theorem zd_Law_law_583 : decode zc_Law_law 583 = .ok (.iload 4, 2) := by decide +kernel
theorem zd_Law_law_585 : decode zc_Law_law 585 = .ok (.iconst 2, 1) := by decide +kernel
theorem zd_Law_law_586 : decode zc_Law_law 586 = .ok (.iadd, 1) := by decide +kernel
theorem zd_Law_law_587 : decode zc_Law_law 587 = .ok (.iaload, 1) := by decide +kernel
theorem zd_Law_law_588 : decode zc_Law_law 588 = .ok (.invokevirtual 104, 3) := by decide +kernel
theorem zd_Law_law_591 : decode zc_Law_law 591 = .ok (.istore 6, 2) := by decide +kernel
theorem zd_Law_law_593 : decode zc_Law_law 593 = .ok (.aload_n 2, 1) := by decide +kernel
theorem zd_Law_law_594 : decode zc_Law_law 594 = .ok (.invokevirtual 75, 3) := by decide +kernel
theorem zd_Law_law_597 : decode zc_Law_law 597 = .ok (.iload 5, 2) := by decide +kernel
theorem zd_Law_law_599 : decode zc_Law_law 599 = .ok (.if_icmp .eq 5, 3) := by decide +kernel
theorem zd_Law_law_602 : decode zc_Law_law 602 = .ok (.iconst 0, 1) := by decide +kernel
theorem zd_Law_law_603 : decode zc_Law_law 603 = .ok (.ireturn, 1) := by decide +kernel
theorem zd_Law_law_604 : decode zc_Law_law 604 = .ok (.iload 5, 2) := by decide +kernel
theorem zd_Law_law_606 : decode zc_Law_law 606 = .ok (.ifCond .ne 15, 3) := by decide +kernel
theorem zd_Law_law_609 : decode zc_Law_law 609 = .ok (.aload_n 3, 1) := by decide +kernel
theorem zd_Law_law_610 : decode zc_Law_law 610 = .ok (.iconst 0, 1) := by decide +kernel
theorem zd_Law_law_611 : decode zc_Law_law 611 = .ok (.laload, 1) := by decide +kernel
theorem zd_Law_law_612 : decode zc_Law_law 612 = .ok (.iload 6, 2) := by decide +kernel
theorem zd_Law_law_614 : decode zc_Law_law 614 = .ok (.i2l, 1) := by decide +kernel
theorem zd_Law_law_615 : decode zc_Law_law 615 = .ok (.lcmp, 1) := by decide +kernel
theorem zd_Law_law_616 : decode zc_Law_law 616 = .ok (.ifCond .eq 5, 3) := by decide +kernel
theorem zd_Law_law_619 : decode zc_Law_law 619 = .ok (.iconst 0, 1) := by decide +kernel
theorem zd_Law_law_620 : decode zc_Law_law 620 = .ok (.ireturn, 1) := by decide +kernel
theorem zd_Law_law_621 : decode zc_Law_law 621 = .ok (.goto 253, 3) := by decide +kernel
theorem zd_Law_law_624 : decode zc_Law_law 624 = .ok (.aload_n 1, 1) := by decide +kernel
theorem zd_Law_law_625 : decode zc_Law_law 625 = .ok (.aload_n 3, 1) := by decide +kernel
theorem zd_Law_law_626 : decode zc_Law_law 626 = .ok (.invokestatic 105, 3) := by decide +kernel
theorem zd_Law_law_629 : decode zc_Law_law 629 = .ok (.istore 5, 2) := by decide +kernel
theorem zd_Law_law_631 : decode zc_Law_law 631 = .ok (.aload_n 2, 1) := by decide +kernel
theorem zd_Law_law_632 : decode zc_Law_law 632 = .ok (.invokevirtual 107, 3) := by decide +kernel
theorem zd_Law_law_635 : decode zc_Law_law 635 = .ok (.istore 6, 2) := by decide +kernel
theorem zd_Law_law_637 : decode zc_Law_law 637 = .ok (.aload_n 2, 1) := by decide +kernel
theorem zd_Law_law_638 : decode zc_Law_law 638 = .ok (.invokevirtual 75, 3) := by decide +kernel
theorem zd_Law_law_641 : decode zc_Law_law 641 = .ok (.iload 5, 2) := by decide +kernel
theorem zd_Law_law_643 : decode zc_Law_law 643 = .ok (.if_icmp .eq 5, 3) := by decide +kernel
theorem zd_Law_law_646 : decode zc_Law_law 646 = .ok (.iconst 0, 1) := by decide +kernel
theorem zd_Law_law_647 : decode zc_Law_law 647 = .ok (.ireturn, 1) := by decide +kernel
theorem zd_Law_law_648 : decode zc_Law_law 648 = .ok (.iload 5, 2) := by decide +kernel
theorem zd_Law_law_650 : decode zc_Law_law 650 = .ok (.ifCond .ne 15, 3) := by decide +kernel
theorem zd_Law_law_653 : decode zc_Law_law 653 = .ok (.aload_n 3, 1) := by decide +kernel
theorem zd_Law_law_654 : decode zc_Law_law 654 = .ok (.iconst 0, 1) := by decide +kernel
theorem zd_Law_law_655 : decode zc_Law_law 655 = .ok (.laload, 1) := by decide +kernel
theorem zd_Law_law_656 : decode zc_Law_law 656 = .ok (.iload 6, 2) := by decide +kernel
