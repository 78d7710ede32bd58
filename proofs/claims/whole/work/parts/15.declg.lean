theorem d_LAW_law_526 : decode mi_LAW_law.2.1 526 = .ok (.iconst 0, 1) := by decide +kernel
theorem d_LAW_law_527 : decode mi_LAW_law.2.1 527 = .ok (.ireturn, 1) := by decide +kernel
theorem d_LAW_law_528 : decode mi_LAW_law.2.1 528 = .ok (.aload_n 1, 1) := by decide +kernel
theorem d_LAW_law_529 : decode mi_LAW_law.2.1 529 = .ok (.aload_n 0, 1) := by decide +kernel
theorem d_LAW_law_530 : decode mi_LAW_law.2.1 530 = .ok (.iload_n 3, 1) := by decide +kernel
theorem d_LAW_law_531 : decode mi_LAW_law.2.1 531 = .ok (.iconst 1, 1) := by decide +kernel
theorem d_LAW_law_532 : decode mi_LAW_law.2.1 532 = .ok (.iadd, 1) := by decide +kernel
theorem d_LAW_law_533 : decode mi_LAW_law.2.1 533 = .ok (.iaload, 1) := by decide +kernel
theorem d_LAW_law_534 : decode mi_LAW_law.2.1 534 = .ok (.aload_n 0, 1) := by decide +kernel
theorem d_LAW_law_535 : decode mi_LAW_law.2.1 535 = .ok (.iload_n 3, 1) := by decide +kernel
theorem d_LAW_law_536 : decode mi_LAW_law.2.1 536 = .ok (.iconst 2, 1) := by decide +kernel
theorem d_LAW_law_537 : decode mi_LAW_law.2.1 537 = .ok (.iadd, 1) := by decide +kernel
theorem d_LAW_law_538 : decode mi_LAW_law.2.1 538 = .ok (.iaload, 1) := by decide +kernel
theorem d_LAW_law_539 : decode mi_LAW_law.2.1 539 = .ok (.invokevirtual 75, 3) := by decide +kernel
theorem d_LAW_law_542 : decode mi_LAW_law.2.1 542 = .ok (.aload_n 2, 1) := by decide +kernel
theorem d_LAW_law_543 : decode mi_LAW_law.2.1 543 = .ok (.aload_n 0, 1) := by decide +kernel
theorem d_LAW_law_544 : decode mi_LAW_law.2.1 544 = .ok (.iload_n 3, 1) := by decide +kernel
theorem d_LAW_law_545 : decode mi_LAW_law.2.1 545 = .ok (.iconst 1, 1) := by decide +kernel
theorem d_LAW_law_546 : decode mi_LAW_law.2.1 546 = .ok (.iadd, 1) := by decide +kernel
theorem d_LAW_law_547 : decode mi_LAW_law.2.1 547 = .ok (.iaload, 1) := by decide +kernel
theorem d_LAW_law_548 : decode mi_LAW_law.2.1 548 = .ok (.aload_n 0, 1) := by decide +kernel
theorem d_LAW_law_549 : decode mi_LAW_law.2.1 549 = .ok (.iload_n 3, 1) := by decide +kernel
theorem d_LAW_law_550 : decode mi_LAW_law.2.1 550 = .ok (.iconst 2, 1) := by decide +kernel
theorem d_LAW_law_551 : decode mi_LAW_law.2.1 551 = .ok (.iadd, 1) := by decide +kernel
theorem d_LAW_law_552 : decode mi_LAW_law.2.1 552 = .ok (.iaload, 1) := by decide +kernel
theorem d_LAW_law_553 : decode mi_LAW_law.2.1 553 = .ok (.invokevirtual 78, 3) := by decide +kernel
theorem d_LAW_law_556 : decode mi_LAW_law.2.1 556 = .ok (.if_icmp .eq (219), 3) := by decide +kernel
theorem d_LAW_law_559 : decode mi_LAW_law.2.1 559 = .ok (.iconst 0, 1) := by decide +kernel
theorem d_LAW_law_560 : decode mi_LAW_law.2.1 560 = .ok (.ireturn, 1) := by decide +kernel
theorem d_LAW_law_561 : decode mi_LAW_law.2.1 561 = .ok (.aload_n 1, 1) := by decide +kernel
theorem d_LAW_law_562 : decode mi_LAW_law.2.1 562 = .ok (.aload_n 0, 1) := by decide +kernel
theorem d_LAW_law_563 : decode mi_LAW_law.2.1 563 = .ok (.iload_n 3, 1) := by decide +kernel
theorem d_LAW_law_564 : decode mi_LAW_law.2.1 564 = .ok (.iconst 1, 1) := by decide +kernel
theorem d_LAW_law_565 : decode mi_LAW_law.2.1 565 = .ok (.iadd, 1) := by decide +kernel
theorem d_LAW_law_566 : decode mi_LAW_law.2.1 566 = .ok (.iaload, 1) := by decide +kernel
theorem d_LAW_law_567 : decode mi_LAW_law.2.1 567 = .ok (.aload_n 0, 1) := by decide +kernel
theorem d_LAW_law_568 : decode mi_LAW_law.2.1 568 = .ok (.iload_n 3, 1) := by decide +kernel
theorem d_LAW_law_569 : decode mi_LAW_law.2.1 569 = .ok (.iconst 2, 1) := by decide +kernel
theorem d_LAW_law_570 : decode mi_LAW_law.2.1 570 = .ok (.iadd, 1) := by decide +kernel
theorem d_LAW_law_571 : decode mi_LAW_law.2.1 571 = .ok (.iaload, 1) := by decide +kernel
theorem d_LAW_law_572 : decode mi_LAW_law.2.1 572 = .ok (.invokevirtual 79, 3) := by decide +kernel
theorem d_LAW_law_575 : decode mi_LAW_law.2.1 575 = .ok (.aload_n 2, 1) := by decide +kernel
theorem d_LAW_law_576 : decode mi_LAW_law.2.1 576 = .ok (.aload_n 0, 1) := by decide +kernel
theorem d_LAW_law_577 : decode mi_LAW_law.2.1 577 = .ok (.iload_n 3, 1) := by decide +kernel
theorem d_LAW_law_578 : decode mi_LAW_law.2.1 578 = .ok (.iconst 1, 1) := by decide +kernel
theorem d_LAW_law_579 : decode mi_LAW_law.2.1 579 = .ok (.iadd, 1) := by decide +kernel
theorem d_LAW_law_580 : decode mi_LAW_law.2.1 580 = .ok (.iaload, 1) := by decide +kernel
theorem d_LAW_law_581 : decode mi_LAW_law.2.1 581 = .ok (.aload_n 0, 1) := by decide +kernel
theorem d_LAW_law_582 : decode mi_LAW_law.2.1 582 = .ok (.iload_n 3, 1) := by decide +kernel
theorem d_LAW_law_583 : decode mi_LAW_law.2.1 583 = .ok (.iconst 2, 1) := by decide +kernel
theorem d_LAW_law_584 : decode mi_LAW_law.2.1 584 = .ok (.iadd, 1) := by decide +kernel
theorem d_LAW_law_585 : decode mi_LAW_law.2.1 585 = .ok (.iaload, 1) := by decide +kernel
theorem d_LAW_law_586 : decode mi_LAW_law.2.1 586 = .ok (.invokevirtual 82, 3) := by decide +kernel
theorem d_LAW_law_589 : decode mi_LAW_law.2.1 589 = .ok (.if_icmp .eq (186), 3) := by decide +kernel
theorem d_LAW_law_592 : decode mi_LAW_law.2.1 592 = .ok (.iconst 0, 1) := by decide +kernel
theorem d_LAW_law_593 : decode mi_LAW_law.2.1 593 = .ok (.ireturn, 1) := by decide +kernel
theorem d_LAW_law_594 : decode mi_LAW_law.2.1 594 = .ok (.aload_n 1, 1) := by decide +kernel
theorem d_LAW_law_595 : decode mi_LAW_law.2.1 595 = .ok (.aload_n 0, 1) := by decide +kernel
theorem d_LAW_law_596 : decode mi_LAW_law.2.1 596 = .ok (.iload_n 3, 1) := by decide +kernel
theorem d_LAW_law_597 : decode mi_LAW_law.2.1 597 = .ok (.iconst 1, 1) := by decide +kernel
