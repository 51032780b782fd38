theorem d_Law_law_475 : decode code 475 = .ok (.iconst 2, 1) := by decide +kernel
theorem d_Law_law_476 : decode code 476 = .ok (.iadd, 1) := by decide +kernel
theorem d_Law_law_477 : decode code 477 = .ok (.iaload, 1) := by decide +kernel
theorem d_Law_law_478 : decode code 478 = .ok (.aload_n 0, 1) := by decide +kernel
theorem d_Law_law_479 : decode code 479 = .ok (.iload 4, 2) := by decide +kernel
theorem d_Law_law_481 : decode code 481 = .ok (.iconst 3, 1) := by decide +kernel
theorem d_Law_law_482 : decode code 482 = .ok (.iadd, 1) := by decide +kernel
theorem d_Law_law_483 : decode code 483 = .ok (.iaload, 1) := by decide +kernel
theorem d_Law_law_484 : decode code 484 = .ok (.aload_n 3, 1) := by decide +kernel
theorem d_Law_law_485 : decode code 485 = .ok (.invokestatic 93, 3) := by decide +kernel
theorem d_Law_law_488 : decode code 488 = .ok (.istore 5, 2) := by decide +kernel
theorem d_Law_law_490 : decode code 490 = .ok (.aload_n 2, 1) := by decide +kernel
theorem d_Law_law_491 : decode code 491 = .ok (.aload_n 0, 1) := by decide +kernel
theorem d_Law_law_492 : decode code 492 = .ok (.iload 4, 2) := by decide +kernel
theorem d_Law_law_494 : decode code 494 = .ok (.iconst 1, 1) := by decide +kernel
theorem d_Law_law_495 : decode code 495 = .ok (.iadd, 1) := by decide +kernel
theorem d_Law_law_496 : decode code 496 = .ok (.iaload, 1) := by decide +kernel
theorem d_Law_law_497 : decode code 497 = .ok (.aload_n 0, 1) := by decide +kernel
theorem d_Law_law_498 : decode code 498 = .ok (.iload 4, 2) := by decide +kernel
theorem d_Law_law_500 : decode code 500 = .ok (.iconst 2, 1) := by decide +kernel
theorem d_Law_law_501 : decode code 501 = .ok (.iadd, 1) := by decide +kernel
theorem d_Law_law_502 : decode code 502 = .ok (.iaload, 1) := by decide +kernel
theorem d_Law_law_503 : decode code 503 = .ok (.aload_n 0, 1) := by decide +kernel
theorem d_Law_law_504 : decode code 504 = .ok (.iload 4, 2) := by decide +kernel
theorem d_Law_law_506 : decode code 506 = .ok (.iconst 3, 1) := by decide +kernel
theorem d_Law_law_507 : decode code 507 = .ok (.iadd, 1) := by decide +kernel
theorem d_Law_law_508 : decode code 508 = .ok (.iaload, 1) := by decide +kernel
theorem d_Law_law_509 : decode code 509 = .ok (.invokevirtual 95, 3) := by decide +kernel
theorem d_Law_law_512 : decode code 512 = .ok (.istore 6, 2) := by decide +kernel
theorem d_Law_law_514 : decode code 514 = .ok (.aload_n 2, 1) := by decide +kernel
theorem d_Law_law_515 : decode code 515 = .ok (.invokevirtual 71, 3) := by decide +kernel
theorem d_Law_law_518 : decode code 518 = .ok (.iload 5, 2) := by decide +kernel
theorem d_Law_law_520 : decode code 520 = .ok (.if_icmp .eq 5, 3) := by decide +kernel
theorem d_Law_law_523 : decode code 523 = .ok (.iconst 0, 1) := by decide +kernel
theorem d_Law_law_524 : decode code 524 = .ok (.ireturn, 1) := by decide +kernel
theorem d_Law_law_525 : decode code 525 = .ok (.iload 5, 2) := by decide +kernel
theorem d_Law_law_527 : decode code 527 = .ok (.ifCond .ne 15, 3) := by decide +kernel
theorem d_Law_law_530 : decode code 530 = .ok (.aload_n 3, 1) := by decide +kernel
theorem d_Law_law_531 : decode code 531 = .ok (.iconst 0, 1) := by decide +kernel
theorem d_Law_law_532 : decode code 532 = .ok (.laload, 1) := by decide +kernel
theorem d_Law_law_533 : decode code 533 = .ok (.iload 6, 2) := by decide +kernel
theorem d_Law_law_535 : decode code 535 = .ok (.i2l, 1) := by decide +kernel
theorem d_Law_law_536 : decode code 536 = .ok (.lcmp, 1) := by decide +kernel
theorem d_Law_law_537 : decode code 537 = .ok (.ifCond .eq 5, 3) := by decide +kernel
theorem d_Law_law_540 : decode code 540 = .ok (.iconst 0, 1) := by decide +kernel
theorem d_Law_law_541 : decode code 541 = .ok (.ireturn, 1) := by decide +kernel
theorem d_Law_law_542 : decode code 542 = .ok (.goto 721, 3) := by decide +kernel
theorem d_Law_law_545 : decode code 545 = .ok (.aload_n 1, 1) := by decide +kernel
theorem d_Law_law_546 : decode code 546 = .ok (.aload_n 0, 1) := by decide +kernel
theorem d_Law_law_547 : decode code 547 = .ok (.iload 4, 2) := by decide +kernel
theorem d_Law_law_549 : decode code 549 = .ok (.iconst 1, 1) := by decide +kernel
theorem d_Law_law_550 : decode code 550 = .ok (.iadd, 1) := by decide +kernel
theorem d_Law_law_551 : decode code 551 = .ok (.iaload, 1) := by decide +kernel
theorem d_Law_law_552 : decode code 552 = .ok (.aload_n 0, 1) := by decide +kernel
theorem d_Law_law_553 : decode code 553 = .ok (.iload 4, 2) := by decide +kernel
theorem d_Law_law_555 : decode code 555 = .ok (.iconst 2, 1) := by decide +kernel
theorem d_Law_law_556 : decode code 556 = .ok (.iadd, 1) := by decide +kernel
theorem d_Law_law_557 : decode code 557 = .ok (.iaload, 1) := by decide +kernel
theorem d_Law_law_558 : decode code 558 = .ok (.aload_n 3, 1) := by decide +kernel
theorem d_Law_law_559 : decode code 559 = .ok (.invokestatic 96, 3) := by decide +kernel
theorem d_Law_law_562 : decode code 562 = .ok (.istore 5, 2) := by decide +kernel
theorem d_Law_law_564 : decode code 564 = .ok (.aload_n 2, 1) := by decide +kernel
theorem d_Law_law_565 : decode code 565 = .ok (.aload_n 0, 1) := by decide +kernel
theorem d_Law_law_566 : decode code 566 = .ok (.iload 4, 2) := by decide +kernel
theorem d_Law_law_568 : decode code 568 = .ok (.iconst 1, 1) := by decide +kernel
theorem d_Law_law_569 : decode code 569 = .ok (.iadd, 1) := by decide +kernel
theorem d_Law_law_570 : decode code 570 = .ok (.iaload, 1) := by decide +kernel
theorem d_Law_law_571 : decode code 571 = .ok (.aload_n 0, 1) := by decide +kernel
theorem d_Law_law_572 : decode code 572 = .ok (.iload 4, 2) := by decide +kernel
theorem d_Law_law_574 : decode code 574 = .ok (.iconst 2, 1) := by decide +kernel
theorem d_Law_law_575 : decode code 575 = .ok (.iadd, 1) := by decide +kernel
theorem d_Law_law_576 : decode code 576 = .ok (.iaload, 1) := by decide +kernel
theorem d_Law_law_577 : decode code 577 = .ok (.invokevirtual 98, 3) := by decide +kernel
theorem d_Law_law_580 : decode code 580 = .ok (.istore 6, 2) := by decide +kernel
theorem d_Law_law_582 : decode code 582 = .ok (.aload_n 2, 1) := by decide +kernel
theorem d_Law_law_583 : decode code 583 = .ok (.invokevirtual 71, 3) := by decide +kernel
theorem d_Law_law_586 : decode code 586 = .ok (.iload 5, 2) := by decide +kernel
theorem d_Law_law_588 : decode code 588 = .ok (.if_icmp .eq 5, 3) := by decide +kernel
theorem d_Law_law_591 : decode code 591 = .ok (.iconst 0, 1) := by decide +kernel
theorem d_Law_law_592 : decode code 592 = .ok (.ireturn, 1) := by decide +kernel
theorem d_Law_law_593 : decode code 593 = .ok (.iload 5, 2) := by decide +kernel
theorem d_Law_law_595 : decode code 595 = .ok (.ifCond .ne 15, 3) := by decide +kernel
theorem d_Law_law_598 : decode code 598 = .ok (.aload_n 3, 1) := by decide +kernel
theorem d_Law_law_599 : decode code 599 = .ok (.iconst 0, 1) := by decide +kernel
theorem d_Law_law_600 : decode code 600 = .ok (.laload, 1) := by decide +kernel
theorem d_Law_law_601 : decode code 601 = .ok (.iload 6, 2) := by decide +kernel
theorem d_Law_law_603 : decode code 603 = .ok (.i2l, 1) := by decide +kernel
theorem d_Law_law_604 : decode code 604 = .ok (.lcmp, 1) := by decide +kernel
theorem d_Law_law_605 : decode code 605 = .ok (.ifCond .eq 5, 3) := by decide +kernel
theorem d_Law_law_608 : decode code 608 = .ok (.iconst 0, 1) := by decide +kernel
theorem d_Law_law_609 : decode code 609 = .ok (.ireturn, 1) := by decide +kernel
theorem d_Law_law_610 : decode code 610 = .ok (.goto 653, 3) := by decide +kernel
theorem d_Law_law_613 : decode code 613 = .ok (.aload_n 1, 1) := by decide +kernel
theorem d_Law_law_614 : decode code 614 = .ok (.aload_n 0, 1) := by decide +kernel
theorem d_Law_law_615 : decode code 615 = .ok (.iload 4, 2) := by decide +kernel
theorem d_Law_law_617 : decode code 617 = .ok (.iconst 1, 1) := by decide +kernel
theorem d_Law_law_618 : decode code 618 = .ok (.iadd, 1) := by decide +kernel
theorem d_Law_law_619 : decode code 619 = .ok (.iaload, 1) := by decide +kernel
theorem d_Law_law_620 : decode code 620 = .ok (.aload_n 0, 1) := by decide +kernel
theorem d_Law_law_621 : decode code 621 = .ok (.iload 4, 2) := by decide +kernel
