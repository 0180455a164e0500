section LAW5604
theorem dL_467 : decode code 467 = .ok (.iconst 0, 1) := by decide +kernel
theorem dL_468 : decode code 468 = .ok (.ireturn, 1) := by decide +kernel
theorem dL_469 : decode code 469 = .ok (.goto 1276, 3) := by decide +kernel
theorem dL_472 : decode code 472 = .ok (.aload_n 1, 1) := by decide +kernel
theorem dL_473 : decode code 473 = .ok (.aload_n 0, 1) := by decide +kernel
theorem dL_474 : decode code 474 = .ok (.iload 4, 2) := by decide +kernel
theorem dL_476 : decode code 476 = .ok (.iconst 1, 1) := by decide +kernel
theorem dL_477 : decode code 477 = .ok (.iadd, 1) := by decide +kernel
theorem dL_478 : decode code 478 = .ok (.iaload, 1) := by decide +kernel
theorem dL_479 : decode code 479 = .ok (.aload_n 3, 1) := by decide +kernel
theorem dL_480 : decode code 480 = .ok (.invokestatic 112, 3) := by decide +kernel
theorem dL_483 : decode code 483 = .ok (.istore 5, 2) := by decide +kernel
theorem dL_485 : decode code 485 = .ok (.aload_n 2, 1) := by decide +kernel
theorem dL_486 : decode code 486 = .ok (.aload_n 0, 1) := by decide +kernel
theorem dL_487 : decode code 487 = .ok (.iload 4, 2) := by decide +kernel
theorem dL_489 : decode code 489 = .ok (.iconst 1, 1) := by decide +kernel
theorem dL_490 : decode code 490 = .ok (.iadd, 1) := by decide +kernel
theorem dL_491 : decode code 491 = .ok (.iaload, 1) := by decide +kernel
theorem dL_492 : decode code 492 = .ok (.invokevirtual 114, 3) := by decide +kernel
theorem dL_495 : decode code 495 = .ok (.istore 6, 2) := by decide +kernel
theorem dL_497 : decode code 497 = .ok (.aload_n 2, 1) := by decide +kernel
theorem dL_498 : decode code 498 = .ok (.invokevirtual 96, 3) := by decide +kernel
theorem dL_501 : decode code 501 = .ok (.iload 5, 2) := by decide +kernel
theorem dL_503 : decode code 503 = .ok (.if_icmp .eq 5, 3) := by decide +kernel
theorem dL_506 : decode code 506 = .ok (.iconst 0, 1) := by decide +kernel
theorem dL_507 : decode code 507 = .ok (.ireturn, 1) := by decide +kernel
theorem dL_508 : decode code 508 = .ok (.iload 5, 2) := by decide +kernel
theorem dL_510 : decode code 510 = .ok (.ifCond .ne 15, 3) := by decide +kernel
theorem dL_513 : decode code 513 = .ok (.aload_n 3, 1) := by decide +kernel
theorem dL_514 : decode code 514 = .ok (.iconst 0, 1) := by decide +kernel
theorem dL_515 : decode code 515 = .ok (.laload, 1) := by decide +kernel
theorem dL_516 : decode code 516 = .ok (.iload 6, 2) := by decide +kernel
theorem dL_518 : decode code 518 = .ok (.i2l, 1) := by decide +kernel
theorem dL_519 : decode code 519 = .ok (.lcmp, 1) := by decide +kernel
theorem dL_520 : decode code 520 = .ok (.ifCond .eq 5, 3) := by decide +kernel
theorem dL_523 : decode code 523 = .ok (.iconst 0, 1) := by decide +kernel
theorem dL_524 : decode code 524 = .ok (.ireturn, 1) := by decide +kernel
theorem dL_525 : decode code 525 = .ok (.goto 1220, 3) := by decide +kernel
theorem dL_528 : decode code 528 = .ok (.aload_n 1, 1) := by decide +kernel
theorem dL_529 : decode code 529 = .ok (.aload_n 0, 1) := by decide +kernel
theorem dL_530 : decode code 530 = .ok (.iload 4, 2) := by decide +kernel
theorem dL_532 : decode code 532 = .ok (.iconst 1, 1) := by decide +kernel
theorem dL_533 : decode code 533 = .ok (.iadd, 1) := by decide +kernel
theorem dL_534 : decode code 534 = .ok (.iaload, 1) := by decide +kernel
theorem dL_535 : decode code 535 = .ok (.aload_n 0, 1) := by decide +kernel
theorem dL_536 : decode code 536 = .ok (.iload 4, 2) := by decide +kernel
theorem dL_538 : decode code 538 = .ok (.iconst 2, 1) := by decide +kernel
theorem dL_539 : decode code 539 = .ok (.iadd, 1) := by decide +kernel
theorem dL_540 : decode code 540 = .ok (.iaload, 1) := by decide +kernel
theorem dL_541 : decode code 541 = .ok (.aload_n 3, 1) := by decide +kernel
theorem dL_542 : decode code 542 = .ok (.invokestatic 115, 3) := by decide +kernel
theorem dL_545 : decode code 545 = .ok (.istore 5, 2) := by decide +kernel
theorem dL_547 : decode code 547 = .ok (.aload_n 2, 1) := by decide +kernel
theorem dL_548 : decode code 548 = .ok (.aload_n 0, 1) := by decide +kernel
theorem dL_549 : decode code 549 = .ok (.iload 4, 2) := by decide +kernel
theorem dL_551 : decode code 551 = .ok (.iconst 1, 1) := by decide +kernel
theorem dL_552 : decode code 552 = .ok (.iadd, 1) := by decide +kernel
theorem dL_553 : decode code 553 = .ok (.iaload, 1) := by decide +kernel
theorem dL_554 : decode code 554 = .ok (.aload_n 0, 1) := by decide +kernel
theorem dL_555 : decode code 555 = .ok (.iload 4, 2) := by decide +kernel
end LAW5604
