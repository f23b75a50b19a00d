theorem d_L_law_551 : decode b_L_law 551 = .ok (.iaload, 1) := by decide +kernel
theorem d_L_law_552 : decode b_L_law 552 = .ok (.i2l, 1) := by decide +kernel
theorem d_L_law_553 : decode b_L_law 553 = .ok (.bipush 32, 2) := by decide +kernel
theorem d_L_law_555 : decode b_L_law 555 = .ok (.lshl, 1) := by decide +kernel
theorem d_L_law_556 : decode b_L_law 556 = .ok (.aload_n 0, 1) := by decide +kernel
theorem d_L_law_557 : decode b_L_law 557 = .ok (.iload_n 3, 1) := by decide +kernel
theorem d_L_law_558 : decode b_L_law 558 = .ok (.bipush 7, 2) := by decide +kernel
theorem d_L_law_560 : decode b_L_law 560 = .ok (.iadd, 1) := by decide +kernel
theorem d_L_law_561 : decode b_L_law 561 = .ok (.iaload, 1) := by decide +kernel
theorem d_L_law_562 : decode b_L_law 562 = .ok (.i2l, 1) := by decide +kernel
theorem d_L_law_563 : decode b_L_law 563 = .ok (.ldc2_w 31, 3) := by decide +kernel
theorem d_L_law_566 : decode b_L_law 566 = .ok (.land, 1) := by decide +kernel
theorem d_L_law_567 : decode b_L_law 567 = .ok (.lor, 1) := by decide +kernel
theorem d_L_law_568 : decode b_L_law 568 = .ok (.aload_n 0, 1) := by decide +kernel
theorem d_L_law_569 : decode b_L_law 569 = .ok (.iload_n 3, 1) := by decide +kernel
theorem d_L_law_570 : decode b_L_law 570 = .ok (.bipush 8, 2) := by decide +kernel
theorem d_L_law_572 : decode b_L_law 572 = .ok (.iadd, 1) := by decide +kernel
theorem d_L_law_573 : decode b_L_law 573 = .ok (.iaload, 1) := by decide +kernel
theorem d_L_law_574 : decode b_L_law 574 = .ok (.invokevirtual 52, 3) := by decide +kernel
theorem d_L_law_577 : decode b_L_law 577 = .ok (.if_icmp .eq 419, 3) := by decide +kernel
theorem d_L_law_580 : decode b_L_law 580 = .ok (.iconst 0, 1) := by decide +kernel
theorem d_L_law_581 : decode b_L_law 581 = .ok (.ireturn, 1) := by decide +kernel
theorem d_L_law_582 : decode b_L_law 582 = .ok (.aload_n 1, 1) := by decide +kernel
theorem d_L_law_583 : decode b_L_law 583 = .ok (.aload_n 0, 1) := by decide +kernel
theorem d_L_law_584 : decode b_L_law 584 = .ok (.iload_n 3, 1) := by decide +kernel
theorem d_L_law_585 : decode b_L_law 585 = .ok (.iconst 1, 1) := by decide +kernel
theorem d_L_law_586 : decode b_L_law 586 = .ok (.iadd, 1) := by decide +kernel
theorem d_L_law_587 : decode b_L_law 587 = .ok (.iaload, 1) := by decide +kernel
theorem d_L_law_588 : decode b_L_law 588 = .ok (.aload_n 0, 1) := by decide +kernel
theorem d_L_law_589 : decode b_L_law 589 = .ok (.iload_n 3, 1) := by decide +kernel
theorem d_L_law_590 : decode b_L_law 590 = .ok (.iconst 2, 1) := by decide +kernel
theorem d_L_law_591 : decode b_L_law 591 = .ok (.iadd, 1) := by decide +kernel
theorem d_L_law_592 : decode b_L_law 592 = .ok (.iaload, 1) := by decide +kernel
theorem d_L_law_593 : decode b_L_law 593 = .ok (.aload_n 0, 1) := by decide +kernel
theorem d_L_law_594 : decode b_L_law 594 = .ok (.iload_n 3, 1) := by decide +kernel
theorem d_L_law_595 : decode b_L_law 595 = .ok (.iconst 3, 1) := by decide +kernel
theorem d_L_law_596 : decode b_L_law 596 = .ok (.iadd, 1) := by decide +kernel
theorem d_L_law_597 : decode b_L_law 597 = .ok (.iaload, 1) := by decide +kernel
theorem d_L_law_598 : decode b_L_law 598 = .ok (.aload_n 0, 1) := by decide +kernel
theorem d_L_law_599 : decode b_L_law 599 = .ok (.iload_n 3, 1) := by decide +kernel
theorem d_L_law_600 : decode b_L_law 600 = .ok (.iconst 4, 1) := by decide +kernel
theorem d_L_law_601 : decode b_L_law 601 = .ok (.iadd, 1) := by decide +kernel
theorem d_L_law_602 : decode b_L_law 602 = .ok (.iaload, 1) := by decide +kernel
theorem d_L_law_603 : decode b_L_law 603 = .ok (.invokevirtual 53, 3) := by decide +kernel
theorem d_L_law_606 : decode b_L_law 606 = .ok (.aload_n 2, 1) := by decide +kernel
theorem d_L_law_607 : decode b_L_law 607 = .ok (.aload_n 0, 1) := by decide +kernel
theorem d_L_law_608 : decode b_L_law 608 = .ok (.iload_n 3, 1) := by decide +kernel
theorem d_L_law_609 : decode b_L_law 609 = .ok (.iconst 1, 1) := by decide +kernel
theorem d_L_law_610 : decode b_L_law 610 = .ok (.iadd, 1) := by decide +kernel
theorem d_L_law_611 : decode b_L_law 611 = .ok (.iaload, 1) := by decide +kernel
theorem d_L_law_612 : decode b_L_law 612 = .ok (.aload_n 0, 1) := by decide +kernel
theorem d_L_law_613 : decode b_L_law 613 = .ok (.iload_n 3, 1) := by decide +kernel
theorem d_L_law_614 : decode b_L_law 614 = .ok (.iconst 2, 1) := by decide +kernel
theorem d_L_law_615 : decode b_L_law 615 = .ok (.iadd, 1) := by decide +kernel
theorem d_L_law_616 : decode b_L_law 616 = .ok (.iaload, 1) := by decide +kernel
theorem d_L_law_617 : decode b_L_law 617 = .ok (.aload_n 0, 1) := by decide +kernel
theorem d_L_law_618 : decode b_L_law 618 = .ok (.iload_n 3, 1) := by decide +kernel
theorem d_L_law_619 : decode b_L_law 619 = .ok (.iconst 3, 1) := by decide +kernel
theorem d_L_law_620 : decode b_L_law 620 = .ok (.iadd, 1) := by decide +kernel
theorem d_L_law_621 : decode b_L_law 621 = .ok (.iaload, 1) := by decide +kernel
theorem d_L_law_622 : decode b_L_law 622 = .ok (.aload_n 0, 1) := by decide +kernel
theorem d_L_law_623 : decode b_L_law 623 = .ok (.iload_n 3, 1) := by decide +kernel
theorem d_L_law_624 : decode b_L_law 624 = .ok (.iconst 4, 1) := by decide +kernel
theorem d_L_law_625 : decode b_L_law 625 = .ok (.iadd, 1) := by decide +kernel
theorem d_L_law_626 : decode b_L_law 626 = .ok (.iaload, 1) := by decide +kernel
theorem d_L_law_627 : decode b_L_law 627 = .ok (.invokevirtual 57, 3) := by decide +kernel
theorem d_L_law_630 : decode b_L_law 630 = .ok (.if_icmp .eq 366, 3) := by decide +kernel
theorem d_L_law_633 : decode b_L_law 633 = .ok (.iconst 0, 1) := by decide +kernel
theorem d_L_law_634 : decode b_L_law 634 = .ok (.ireturn, 1) := by decide +kernel
theorem d_L_law_635 : decode b_L_law 635 = .ok (.aload_n 1, 1) := by decide +kernel
theorem d_L_law_636 : decode b_L_law 636 = .ok (.aload_n 0, 1) := by decide +kernel
theorem d_L_law_637 : decode b_L_law 637 = .ok (.iload_n 3, 1) := by decide +kernel
theorem d_L_law_638 : decode b_L_law 638 = .ok (.iconst 1, 1) := by decide +kernel
theorem d_L_law_639 : decode b_L_law 639 = .ok (.iadd, 1) := by decide +kernel
theorem d_L_law_640 : decode b_L_law 640 = .ok (.iaload, 1) := by decide +kernel
theorem d_L_law_641 : decode b_L_law 641 = .ok (.invokevirtual 58, 3) := by decide +kernel
theorem d_L_law_644 : decode b_L_law 644 = .ok (.aload_n 2, 1) := by decide +kernel
theorem d_L_law_645 : decode b_L_law 645 = .ok (.aload_n 0, 1) := by decide +kernel
theorem d_L_law_646 : decode b_L_law 646 = .ok (.iload_n 3, 1) := by decide +kernel
theorem d_L_law_647 : decode b_L_law 647 = .ok (.iconst 1, 1) := by decide +kernel
theorem d_L_law_648 : decode b_L_law 648 = .ok (.iadd, 1) := by decide +kernel
theorem d_L_law_649 : decode b_L_law 649 = .ok (.iaload, 1) := by decide +kernel
theorem d_L_law_650 : decode b_L_law 650 = .ok (.invokevirtual 61, 3) := by decide +kernel
theorem d_L_law_653 : decode b_L_law 653 = .ok (.lcmp, 1) := by decide +kernel
theorem d_L_law_654 : decode b_L_law 654 = .ok (.ifCond .eq 342, 3) := by decide +kernel
theorem d_L_law_657 : decode b_L_law 657 = .ok (.iconst 0, 1) := by decide +kernel
theorem d_L_law_658 : decode b_L_law 658 = .ok (.ireturn, 1) := by decide +kernel
theorem d_L_law_659 : decode b_L_law 659 = .ok (.aload_n 1, 1) := by decide +kernel
theorem d_L_law_660 : decode b_L_law 660 = .ok (.aload_n 0, 1) := by decide +kernel
theorem d_L_law_661 : decode b_L_law 661 = .ok (.iload_n 3, 1) := by decide +kernel
theorem d_L_law_662 : decode b_L_law 662 = .ok (.iconst 1, 1) := by decide +kernel
theorem d_L_law_663 : decode b_L_law 663 = .ok (.iadd, 1) := by decide +kernel
theorem d_L_law_664 : decode b_L_law 664 = .ok (.iaload, 1) := by decide +kernel
theorem d_L_law_665 : decode b_L_law 665 = .ok (.invokevirtual 62, 3) := by decide +kernel
theorem d_L_law_668 : decode b_L_law 668 = .ok (.aload_n 2, 1) := by decide +kernel
theorem d_L_law_669 : decode b_L_law 669 = .ok (.aload_n 0, 1) := by decide +kernel
theorem d_L_law_670 : decode b_L_law 670 = .ok (.iload_n 3, 1) := by decide +kernel
theorem d_L_law_671 : decode b_L_law 671 = .ok (.iconst 1, 1) := by decide +kernel
theorem d_L_law_672 : decode b_L_law 672 = .ok (.iadd, 1) := by decide +kernel
theorem d_L_law_673 : decode b_L_law 673 = .ok (.iaload, 1) := by decide +kernel
theorem d_L_law_674 : decode b_L_law 674 = .ok (.invokevirtual 65, 3) := by decide +kernel
theorem d_L_law_677 : decode b_L_law 677 = .ok (.lcmp, 1) := by decide +kernel
theorem d_L_law_678 : decode b_L_law 678 = .ok (.ifCond .eq 318, 3) := by decide +kernel
theorem d_L_law_681 : decode b_L_law 681 = .ok (.iconst 0, 1) := by decide +kernel
theorem d_L_law_682 : decode b_L_law 682 = .ok (.ireturn, 1) := by decide +kernel
theorem d_L_law_683 : decode b_L_law 683 = .ok (.aload_n 1, 1) := by decide +kernel
theorem d_L_law_684 : decode b_L_law 684 = .ok (.invokevirtual 66, 3) := by decide +kernel
theorem d_L_law_687 : decode b_L_law 687 = .ok (.aload_n 2, 1) := by decide +kernel
theorem d_L_law_688 : decode b_L_law 688 = .ok (.invokevirtual 70, 3) := by decide +kernel
theorem d_L_law_691 : decode b_L_law 691 = .ok (.if_icmp .eq 305, 3) := by decide +kernel
theorem d_L_law_694 : decode b_L_law 694 = .ok (.iconst 0, 1) := by decide +kernel
theorem d_L_law_695 : decode b_L_law 695 = .ok (.ireturn, 1) := by decide +kernel
theorem d_L_law_696 : decode b_L_law 696 = .ok (.aload_n 1, 1) := by decide +kernel
theorem d_L_law_697 : decode b_L_law 697 = .ok (.invokevirtual 71, 3) := by decide +kernel
theorem d_L_law_700 : decode b_L_law 700 = .ok (.aload_n 2, 1) := by decide +kernel
theorem d_L_law_701 : decode b_L_law 701 = .ok (.invokevirtual 74, 3) := by decide +kernel
theorem d_L_law_704 : decode b_L_law 704 = .ok (.if_icmp .eq 292, 3) := by decide +kernel
theorem d_L_law_707 : decode b_L_law 707 = .ok (.iconst 0, 1) := by decide +kernel
theorem d_L_law_708 : decode b_L_law 708 = .ok (.ireturn, 1) := by decide +kernel
theorem d_L_law_709 : decode b_L_law 709 = .ok (.aload_n 1, 1) := by decide +kernel
