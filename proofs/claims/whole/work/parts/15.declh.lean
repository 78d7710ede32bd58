theorem d_LAW_law_598 : decode mi_LAW_law.2.1 598 = .ok (.iadd, 1) := by decide +kernel
theorem d_LAW_law_599 : decode mi_LAW_law.2.1 599 = .ok (.iaload, 1) := by decide +kernel
theorem d_LAW_law_600 : decode mi_LAW_law.2.1 600 = .ok (.aload_n 0, 1) := by decide +kernel
theorem d_LAW_law_601 : decode mi_LAW_law.2.1 601 = .ok (.iload_n 3, 1) := by decide +kernel
theorem d_LAW_law_602 : decode mi_LAW_law.2.1 602 = .ok (.iconst 2, 1) := by decide +kernel
theorem d_LAW_law_603 : decode mi_LAW_law.2.1 603 = .ok (.iadd, 1) := by decide +kernel
theorem d_LAW_law_604 : decode mi_LAW_law.2.1 604 = .ok (.iaload, 1) := by decide +kernel
theorem d_LAW_law_605 : decode mi_LAW_law.2.1 605 = .ok (.invokevirtual 83, 3) := by decide +kernel
theorem d_LAW_law_608 : decode mi_LAW_law.2.1 608 = .ok (.aload_n 2, 1) := by decide +kernel
theorem d_LAW_law_609 : decode mi_LAW_law.2.1 609 = .ok (.aload_n 0, 1) := by decide +kernel
theorem d_LAW_law_610 : decode mi_LAW_law.2.1 610 = .ok (.iload_n 3, 1) := by decide +kernel
theorem d_LAW_law_611 : decode mi_LAW_law.2.1 611 = .ok (.iconst 1, 1) := by decide +kernel
theorem d_LAW_law_612 : decode mi_LAW_law.2.1 612 = .ok (.iadd, 1) := by decide +kernel
theorem d_LAW_law_613 : decode mi_LAW_law.2.1 613 = .ok (.iaload, 1) := by decide +kernel
theorem d_LAW_law_614 : decode mi_LAW_law.2.1 614 = .ok (.aload_n 0, 1) := by decide +kernel
theorem d_LAW_law_615 : decode mi_LAW_law.2.1 615 = .ok (.iload_n 3, 1) := by decide +kernel
theorem d_LAW_law_616 : decode mi_LAW_law.2.1 616 = .ok (.iconst 2, 1) := by decide +kernel
theorem d_LAW_law_617 : decode mi_LAW_law.2.1 617 = .ok (.iadd, 1) := by decide +kernel
theorem d_LAW_law_618 : decode mi_LAW_law.2.1 618 = .ok (.iaload, 1) := by decide +kernel
theorem d_LAW_law_619 : decode mi_LAW_law.2.1 619 = .ok (.invokevirtual 86, 3) := by decide +kernel
theorem d_LAW_law_622 : decode mi_LAW_law.2.1 622 = .ok (.if_icmp .eq (153), 3) := by decide +kernel
theorem d_LAW_law_625 : decode mi_LAW_law.2.1 625 = .ok (.iconst 0, 1) := by decide +kernel
theorem d_LAW_law_626 : decode mi_LAW_law.2.1 626 = .ok (.ireturn, 1) := by decide +kernel
theorem d_LAW_law_627 : decode mi_LAW_law.2.1 627 = .ok (.aload_n 1, 1) := by decide +kernel
theorem d_LAW_law_628 : decode mi_LAW_law.2.1 628 = .ok (.aload_n 0, 1) := by decide +kernel
theorem d_LAW_law_629 : decode mi_LAW_law.2.1 629 = .ok (.iload_n 3, 1) := by decide +kernel
theorem d_LAW_law_630 : decode mi_LAW_law.2.1 630 = .ok (.iconst 1, 1) := by decide +kernel
theorem d_LAW_law_631 : decode mi_LAW_law.2.1 631 = .ok (.iadd, 1) := by decide +kernel
theorem d_LAW_law_632 : decode mi_LAW_law.2.1 632 = .ok (.iaload, 1) := by decide +kernel
theorem d_LAW_law_633 : decode mi_LAW_law.2.1 633 = .ok (.aload_n 0, 1) := by decide +kernel
theorem d_LAW_law_634 : decode mi_LAW_law.2.1 634 = .ok (.iload_n 3, 1) := by decide +kernel
theorem d_LAW_law_635 : decode mi_LAW_law.2.1 635 = .ok (.iconst 2, 1) := by decide +kernel
theorem d_LAW_law_636 : decode mi_LAW_law.2.1 636 = .ok (.iadd, 1) := by decide +kernel
theorem d_LAW_law_637 : decode mi_LAW_law.2.1 637 = .ok (.iaload, 1) := by decide +kernel
theorem d_LAW_law_638 : decode mi_LAW_law.2.1 638 = .ok (.invokevirtual 87, 3) := by decide +kernel
theorem d_LAW_law_641 : decode mi_LAW_law.2.1 641 = .ok (.aload_n 2, 1) := by decide +kernel
theorem d_LAW_law_642 : decode mi_LAW_law.2.1 642 = .ok (.aload_n 0, 1) := by decide +kernel
theorem d_LAW_law_643 : decode mi_LAW_law.2.1 643 = .ok (.iload_n 3, 1) := by decide +kernel
theorem d_LAW_law_644 : decode mi_LAW_law.2.1 644 = .ok (.iconst 1, 1) := by decide +kernel
theorem d_LAW_law_645 : decode mi_LAW_law.2.1 645 = .ok (.iadd, 1) := by decide +kernel
theorem d_LAW_law_646 : decode mi_LAW_law.2.1 646 = .ok (.iaload, 1) := by decide +kernel
theorem d_LAW_law_647 : decode mi_LAW_law.2.1 647 = .ok (.aload_n 0, 1) := by decide +kernel
theorem d_LAW_law_648 : decode mi_LAW_law.2.1 648 = .ok (.iload_n 3, 1) := by decide +kernel
theorem d_LAW_law_649 : decode mi_LAW_law.2.1 649 = .ok (.iconst 2, 1) := by decide +kernel
theorem d_LAW_law_650 : decode mi_LAW_law.2.1 650 = .ok (.iadd, 1) := by decide +kernel
theorem d_LAW_law_651 : decode mi_LAW_law.2.1 651 = .ok (.iaload, 1) := by decide +kernel
theorem d_LAW_law_652 : decode mi_LAW_law.2.1 652 = .ok (.invokevirtual 90, 3) := by decide +kernel
theorem d_LAW_law_655 : decode mi_LAW_law.2.1 655 = .ok (.if_icmp .eq (120), 3) := by decide +kernel
theorem d_LAW_law_658 : decode mi_LAW_law.2.1 658 = .ok (.iconst 0, 1) := by decide +kernel
theorem d_LAW_law_659 : decode mi_LAW_law.2.1 659 = .ok (.ireturn, 1) := by decide +kernel
theorem d_LAW_law_660 : decode mi_LAW_law.2.1 660 = .ok (.aload_n 1, 1) := by decide +kernel
theorem d_LAW_law_661 : decode mi_LAW_law.2.1 661 = .ok (.aload_n 0, 1) := by decide +kernel
theorem d_LAW_law_662 : decode mi_LAW_law.2.1 662 = .ok (.iload_n 3, 1) := by decide +kernel
theorem d_LAW_law_663 : decode mi_LAW_law.2.1 663 = .ok (.iconst 1, 1) := by decide +kernel
theorem d_LAW_law_664 : decode mi_LAW_law.2.1 664 = .ok (.iadd, 1) := by decide +kernel
theorem d_LAW_law_665 : decode mi_LAW_law.2.1 665 = .ok (.iaload, 1) := by decide +kernel
theorem d_LAW_law_666 : decode mi_LAW_law.2.1 666 = .ok (.aload_n 0, 1) := by decide +kernel
theorem d_LAW_law_667 : decode mi_LAW_law.2.1 667 = .ok (.iload_n 3, 1) := by decide +kernel
theorem d_LAW_law_668 : decode mi_LAW_law.2.1 668 = .ok (.iconst 2, 1) := by decide +kernel
theorem d_LAW_law_669 : decode mi_LAW_law.2.1 669 = .ok (.iadd, 1) := by decide +kernel
