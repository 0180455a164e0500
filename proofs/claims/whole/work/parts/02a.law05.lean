section LAW5605
theorem dL_557 : decode code 557 = .ok (.iconst 2, 1) := by decide +kernel
theorem dL_558 : decode code 558 = .ok (.iadd, 1) := by decide +kernel
theorem dL_559 : decode code 559 = .ok (.iaload, 1) := by decide +kernel
theorem dL_560 : decode code 560 = .ok (.invokevirtual 117, 3) := by decide +kernel
theorem dL_563 : decode code 563 = .ok (.istore 6, 2) := by decide +kernel
theorem dL_565 : decode code 565 = .ok (.aload_n 2, 1) := by decide +kernel
theorem dL_566 : decode code 566 = .ok (.invokevirtual 96, 3) := by decide +kernel
theorem dL_569 : decode code 569 = .ok (.iload 5, 2) := by decide +kernel
theorem dL_571 : decode code 571 = .ok (.if_icmp .eq 5, 3) := by decide +kernel
theorem dL_574 : decode code 574 = .ok (.iconst 0, 1) := by decide +kernel
theorem dL_575 : decode code 575 = .ok (.ireturn, 1) := by decide +kernel
theorem dL_576 : decode code 576 = .ok (.iload 5, 2) := by decide +kernel
theorem dL_578 : decode code 578 = .ok (.ifCond .ne 15, 3) := by decide +kernel
theorem dL_581 : decode code 581 = .ok (.aload_n 3, 1) := by decide +kernel
theorem dL_582 : decode code 582 = .ok (.iconst 0, 1) := by decide +kernel
theorem dL_583 : decode code 583 = .ok (.laload, 1) := by decide +kernel
theorem dL_584 : decode code 584 = .ok (.iload 6, 2) := by decide +kernel
theorem dL_586 : decode code 586 = .ok (.i2l, 1) := by decide +kernel
theorem dL_587 : decode code 587 = .ok (.lcmp, 1) := by decide +kernel
theorem dL_588 : decode code 588 = .ok (.ifCond .eq 5, 3) := by decide +kernel
theorem dL_591 : decode code 591 = .ok (.iconst 0, 1) := by decide +kernel
theorem dL_592 : decode code 592 = .ok (.ireturn, 1) := by decide +kernel
theorem dL_593 : decode code 593 = .ok (.goto 1152, 3) := by decide +kernel
theorem dL_596 : decode code 596 = .ok (.aload_n 1, 1) := by decide +kernel
theorem dL_597 : decode code 597 = .ok (.aload_n 0, 1) := by decide +kernel
theorem dL_598 : decode code 598 = .ok (.iload 4, 2) := by decide +kernel
theorem dL_600 : decode code 600 = .ok (.iconst 1, 1) := by decide +kernel
theorem dL_601 : decode code 601 = .ok (.iadd, 1) := by decide +kernel
theorem dL_602 : decode code 602 = .ok (.iaload, 1) := by decide +kernel
theorem dL_603 : decode code 603 = .ok (.aload_n 0, 1) := by decide +kernel
theorem dL_604 : decode code 604 = .ok (.iload 4, 2) := by decide +kernel
theorem dL_606 : decode code 606 = .ok (.iconst 2, 1) := by decide +kernel
theorem dL_607 : decode code 607 = .ok (.iadd, 1) := by decide +kernel
theorem dL_608 : decode code 608 = .ok (.iaload, 1) := by decide +kernel
theorem dL_609 : decode code 609 = .ok (.aload_n 3, 1) := by decide +kernel
theorem dL_610 : decode code 610 = .ok (.invokestatic 118, 3) := by decide +kernel
theorem dL_613 : decode code 613 = .ok (.istore 5, 2) := by decide +kernel
theorem dL_615 : decode code 615 = .ok (.aload_n 2, 1) := by decide +kernel
theorem dL_616 : decode code 616 = .ok (.aload_n 0, 1) := by decide +kernel
theorem dL_617 : decode code 617 = .ok (.iload 4, 2) := by decide +kernel
theorem dL_619 : decode code 619 = .ok (.iconst 1, 1) := by decide +kernel
theorem dL_620 : decode code 620 = .ok (.iadd, 1) := by decide +kernel
theorem dL_621 : decode code 621 = .ok (.iaload, 1) := by decide +kernel
theorem dL_622 : decode code 622 = .ok (.aload_n 0, 1) := by decide +kernel
theorem dL_623 : decode code 623 = .ok (.iload 4, 2) := by decide +kernel
theorem dL_625 : decode code 625 = .ok (.iconst 2, 1) := by decide +kernel
theorem dL_626 : decode code 626 = .ok (.iadd, 1) := by decide +kernel
theorem dL_627 : decode code 627 = .ok (.iaload, 1) := by decide +kernel
theorem dL_628 : decode code 628 = .ok (.invokevirtual 120, 3) := by decide +kernel
theorem dL_631 : decode code 631 = .ok (.istore 6, 2) := by decide +kernel
theorem dL_633 : decode code 633 = .ok (.aload_n 2, 1) := by decide +kernel
theorem dL_634 : decode code 634 = .ok (.invokevirtual 96, 3) := by decide +kernel
theorem dL_637 : decode code 637 = .ok (.iload 5, 2) := by decide +kernel
theorem dL_639 : decode code 639 = .ok (.if_icmp .eq 5, 3) := by decide +kernel
theorem dL_642 : decode code 642 = .ok (.iconst 0, 1) := by decide +kernel
theorem dL_643 : decode code 643 = .ok (.ireturn, 1) := by decide +kernel
theorem dL_644 : decode code 644 = .ok (.iload 5, 2) := by decide +kernel
theorem dL_646 : decode code 646 = .ok (.ifCond .ne 15, 3) := by decide +kernel
theorem dL_649 : decode code 649 = .ok (.aload_n 3, 1) := by decide +kernel
theorem dL_650 : decode code 650 = .ok (.iconst 0, 1) := by decide +kernel
end LAW5605
