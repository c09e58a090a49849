theorem d_L_law_548 : decode code 548 = .ok (.aload_n 1, 1) := by decide +kernel
theorem d_L_law_549 : decode code 549 = .ok (.aload_n 0, 1) := by decide +kernel
theorem d_L_law_550 : decode code 550 = .ok (.iload 4, 2) := by decide +kernel
theorem d_L_law_552 : decode code 552 = .ok (.iconst 1, 1) := by decide +kernel
theorem d_L_law_553 : decode code 553 = .ok (.iadd, 1) := by decide +kernel
theorem d_L_law_554 : decode code 554 = .ok (.iaload, 1) := by decide +kernel
theorem d_L_law_555 : decode code 555 = .ok (.aload_n 0, 1) := by decide +kernel
theorem d_L_law_556 : decode code 556 = .ok (.iload 4, 2) := by decide +kernel
theorem d_L_law_558 : decode code 558 = .ok (.iconst 2, 1) := by decide +kernel
theorem d_L_law_559 : decode code 559 = .ok (.iadd, 1) := by decide +kernel
theorem d_L_law_560 : decode code 560 = .ok (.iaload, 1) := by decide +kernel
theorem d_L_law_561 : decode code 561 = .ok (.aload_n 3, 1) := by decide +kernel
theorem d_L_law_562 : decode code 562 = .ok (.invokestatic 106, 3) := by decide +kernel
theorem d_L_law_565 : decode code 565 = .ok (.istore 5, 2) := by decide +kernel
theorem d_L_law_567 : decode code 567 = .ok (.aload_n 2, 1) := by decide +kernel
theorem d_L_law_568 : decode code 568 = .ok (.aload_n 0, 1) := by decide +kernel
theorem d_L_law_569 : decode code 569 = .ok (.iload 4, 2) := by decide +kernel
theorem d_L_law_571 : decode code 571 = .ok (.iconst 1, 1) := by decide +kernel
theorem d_L_law_572 : decode code 572 = .ok (.iadd, 1) := by decide +kernel
theorem d_L_law_573 : decode code 573 = .ok (.iaload, 1) := by decide +kernel
theorem d_L_law_574 : decode code 574 = .ok (.aload_n 0, 1) := by decide +kernel
theorem d_L_law_575 : decode code 575 = .ok (.iload 4, 2) := by decide +kernel
theorem d_L_law_577 : decode code 577 = .ok (.iconst 2, 1) := by decide +kernel
theorem d_L_law_578 : decode code 578 = .ok (.iadd, 1) := by decide +kernel
theorem d_L_law_579 : decode code 579 = .ok (.iaload, 1) := by decide +kernel
theorem d_L_law_580 : decode code 580 = .ok (.invokevirtual 108, 3) := by decide +kernel
theorem d_L_law_583 : decode code 583 = .ok (.istore 6, 2) := by decide +kernel
theorem d_L_law_585 : decode code 585 = .ok (.aload_n 2, 1) := by decide +kernel
theorem d_L_law_586 : decode code 586 = .ok (.invokevirtual 83, 3) := by decide +kernel
theorem d_L_law_589 : decode code 589 = .ok (.iload 5, 2) := by decide +kernel
theorem d_L_law_591 : decode code 591 = .ok (.if_icmp .eq 5, 3) := by decide +kernel
theorem d_L_law_594 : decode code 594 = .ok (.iconst 0, 1) := by decide +kernel
theorem d_L_law_595 : decode code 595 = .ok (.ireturn, 1) := by decide +kernel
theorem d_L_law_596 : decode code 596 = .ok (.iload 5, 2) := by decide +kernel
theorem d_L_law_598 : decode code 598 = .ok (.ifCond .ne 15, 3) := by decide +kernel
theorem d_L_law_601 : decode code 601 = .ok (.aload_n 3, 1) := by decide +kernel
theorem d_L_law_602 : decode code 602 = .ok (.iconst 0, 1) := by decide +kernel
theorem d_L_law_603 : decode code 603 = .ok (.laload, 1) := by decide +kernel
theorem d_L_law_604 : decode code 604 = .ok (.iload 6, 2) := by decide +kernel
theorem d_L_law_606 : decode code 606 = .ok (.i2l, 1) := by decide +kernel
theorem d_L_law_607 : decode code 607 = .ok (.lcmp, 1) := by decide +kernel
theorem d_L_law_608 : decode code 608 = .ok (.ifCond .eq 5, 3) := by decide +kernel
theorem d_L_law_611 : decode code 611 = .ok (.iconst 0, 1) := by decide +kernel
theorem d_L_law_612 : decode code 612 = .ok (.ireturn, 1) := by decide +kernel
theorem d_L_law_613 : decode code 613 = .ok (.goto 713, 3) := by decide +kernel
theorem d_L_law_616 : decode code 616 = .ok (.aload_n 1, 1) := by decide +kernel
theorem d_L_law_617 : decode code 617 = .ok (.aload_n 0, 1) := by decide +kernel
theorem d_L_law_618 : decode code 618 = .ok (.iload 4, 2) := by decide +kernel
theorem d_L_law_620 : decode code 620 = .ok (.iconst 1, 1) := by decide +kernel
theorem d_L_law_621 : decode code 621 = .ok (.iadd, 1) := by decide +kernel
theorem d_L_law_622 : decode code 622 = .ok (.iaload, 1) := by decide +kernel
theorem d_L_law_623 : decode code 623 = .ok (.aload_n 0, 1) := by decide +kernel
theorem d_L_law_624 : decode code 624 = .ok (.iload 4, 2) := by decide +kernel
theorem d_L_law_626 : decode code 626 = .ok (.iconst 2, 1) := by decide +kernel
theorem d_L_law_627 : decode code 627 = .ok (.iadd, 1) := by decide +kernel
theorem d_L_law_628 : decode code 628 = .ok (.iaload, 1) := by decide +kernel
theorem d_L_law_629 : decode code 629 = .ok (.aload_n 0, 1) := by decide +kernel
theorem d_L_law_630 : decode code 630 = .ok (.iload 4, 2) := by decide +kernel
theorem d_L_law_632 : decode code 632 = .ok (.iconst 3, 1) := by decide +kernel
theorem d_L_law_633 : decode code 633 = .ok (.iadd, 1) := by decide +kernel
theorem d_L_law_634 : decode code 634 = .ok (.iaload, 1) := by decide +kernel
theorem d_L_law_635 : decode code 635 = .ok (.aload_n 3, 1) := by decide +kernel
theorem d_L_law_636 : decode code 636 = .ok (.invokestatic 109, 3) := by decide +kernel
theorem d_L_law_639 : decode code 639 = .ok (.istore 5, 2) := by decide +kernel
theorem d_L_law_641 : decode code 641 = .ok (.aload_n 2, 1) := by decide +kernel
theorem d_L_law_642 : decode code 642 = .ok (.aload_n 0, 1) := by decide +kernel
theorem d_L_law_643 : decode code 643 = .ok (.iload 4, 2) := by decide +kernel
theorem d_L_law_645 : decode code 645 = .ok (.iconst 1, 1) := by decide +kernel
theorem d_L_law_646 : decode code 646 = .ok (.iadd, 1) := by decide +kernel
theorem d_L_law_647 : decode code 647 = .ok (.iaload, 1) := by decide +kernel
theorem d_L_law_648 : decode code 648 = .ok (.aload_n 0, 1) := by decide +kernel
theorem d_L_law_649 : decode code 649 = .ok (.iload 4, 2) := by decide +kernel
theorem d_L_law_651 : decode code 651 = .ok (.iconst 2, 1) := by decide +kernel
theorem d_L_law_652 : decode code 652 = .ok (.iadd, 1) := by decide +kernel
theorem d_L_law_653 : decode code 653 = .ok (.iaload, 1) := by decide +kernel
theorem d_L_law_654 : decode code 654 = .ok (.aload_n 0, 1) := by decide +kernel
theorem d_L_law_655 : decode code 655 = .ok (.iload 4, 2) := by decide +kernel
theorem d_L_law_657 : decode code 657 = .ok (.iconst 3, 1) := by decide +kernel
theorem d_L_law_658 : decode code 658 = .ok (.iadd, 1) := by decide +kernel
theorem d_L_law_659 : decode code 659 = .ok (.iaload, 1) := by decide +kernel
theorem d_L_law_660 : decode code 660 = .ok (.invokevirtual 112, 3) := by decide +kernel
theorem d_L_law_663 : decode code 663 = .ok (.istore 6, 2) := by decide +kernel
theorem d_L_law_665 : decode code 665 = .ok (.aload_n 2, 1) := by decide +kernel
theorem d_L_law_666 : decode code 666 = .ok (.invokevirtual 83, 3) := by decide +kernel
theorem d_L_law_669 : decode code 669 = .ok (.iload 5, 2) := by decide +kernel
theorem d_L_law_671 : decode code 671 = .ok (.if_icmp .eq 5, 3) := by decide +kernel
theorem d_L_law_674 : decode code 674 = .ok (.iconst 0, 1) := by decide +kernel
theorem d_L_law_675 : decode code 675 = .ok (.ireturn, 1) := by decide +kernel
theorem d_L_law_676 : decode code 676 = .ok (.iload 5, 2) := by decide +kernel
theorem d_L_law_678 : decode code 678 = .ok (.ifCond .ne 15, 3) := by decide +kernel
theorem d_L_law_681 : decode code 681 = .ok (.aload_n 3, 1) := by decide +kernel
theorem d_L_law_682 : decode code 682 = .ok (.iconst 0, 1) := by decide +kernel
theorem d_L_law_683 : decode code 683 = .ok (.laload, 1) := by decide +kernel
theorem d_L_law_684 : decode code 684 = .ok (.iload 6, 2) := by decide +kernel
theorem d_L_law_686 : decode code 686 = .ok (.i2l, 1) := by decide +kernel
theorem d_L_law_687 : decode code 687 = .ok (.lcmp, 1) := by decide +kernel
theorem d_L_law_688 : decode code 688 = .ok (.ifCond .eq 5, 3) := by decide +kernel
theorem d_L_law_691 : decode code 691 = .ok (.iconst 0, 1) := by decide +kernel
theorem d_L_law_692 : decode code 692 = .ok (.ireturn, 1) := by decide +kernel
theorem d_L_law_693 : decode code 693 = .ok (.goto 633, 3) := by decide +kernel
theorem d_L_law_696 : decode code 696 = .ok (.aload_n 1, 1) := by decide +kernel
theorem d_L_law_697 : decode code 697 = .ok (.aload_n 0, 1) := by decide +kernel
theorem d_L_law_698 : decode code 698 = .ok (.iload 4, 2) := by decide +kernel
theorem d_L_law_700 : decode code 700 = .ok (.iconst 1, 1) := by decide +kernel
theorem d_L_law_701 : decode code 701 = .ok (.iadd, 1) := by decide +kernel
theorem d_L_law_702 : decode code 702 = .ok (.iaload, 1) := by decide +kernel
theorem d_L_law_703 : decode code 703 = .ok (.aload_n 0, 1) := by decide +kernel
theorem d_L_law_704 : decode code 704 = .ok (.iload 4, 2) := by decide +kernel
theorem d_L_law_706 : decode code 706 = .ok (.iconst 2, 1) := by decide +kernel
theorem d_L_law_707 : decode code 707 = .ok (.iadd, 1) := by decide +kernel
theorem d_L_law_708 : decode code 708 = .ok (.iaload, 1) := by decide +kernel
theorem d_L_law_709 : decode code 709 = .ok (.aload_n 0, 1) := by decide +kernel
theorem d_L_law_710 : decode code 710 = .ok (.iload 4, 2) := by decide +kernel
theorem d_L_law_712 : decode code 712 = .ok (.iconst 3, 1) := by decide +kernel
theorem d_L_law_713 : decode code 713 = .ok (.iadd, 1) := by decide +kernel
theorem d_L_law_714 : decode code 714 = .ok (.iaload, 1) := by decide +kernel
theorem d_L_law_715 : decode code 715 = .ok (.aload_n 0, 1) := by decide +kernel
theorem d_L_law_716 : decode code 716 = .ok (.iload 4, 2) := by decide +kernel
theorem d_L_law_718 : decode code 718 = .ok (.iconst 4, 1) := by decide +kernel
theorem d_L_law_719 : decode code 719 = .ok (.iadd, 1) := by decide +kernel
theorem d_L_law_720 : decode code 720 = .ok (.iaload, 1) := by decide +kernel
theorem d_L_law_721 : decode code 721 = .ok (.aload_n 3, 1) := by decide +kernel
theorem d_L_law_722 : decode code 722 = .ok (.invokestatic 113, 3) := by decide +kernel
theorem d_L_law_725 : decode code 725 = .ok (.istore 5, 2) := by decide +kernel
theorem d_L_law_727 : decode code 727 = .ok (.aload_n 2, 1) := by decide +kernel
theorem d_L_law_728 : decode code 728 = .ok (.aload_n 0, 1) := by decide +kernel
theorem d_L_law_729 : decode code 729 = .ok (.iload 4, 2) := by decide +kernel
theorem d_L_law_731 : decode code 731 = .ok (.iconst 1, 1) := by decide +kernel
theorem d_L_law_732 : decode code 732 = .ok (.iadd, 1) := by decide +kernel
theorem d_L_law_733 : decode code 733 = .ok (.iaload, 1) := by decide +kernel
theorem d_L_law_734 : decode code 734 = .ok (.aload_n 0, 1) := by decide +kernel
theorem d_L_law_735 : decode code 735 = .ok (.iload 4, 2) := by decide +kernel
theorem d_L_law_737 : decode code 737 = .ok (.iconst 2, 1) := by decide +kernel
theorem d_L_law_738 : decode code 738 = .ok (.iadd, 1) := by decide +kernel
theorem d_L_law_739 : decode code 739 = .ok (.iaload, 1) := by decide +kernel
theorem d_L_law_740 : decode code 740 = .ok (.aload_n 0, 1) := by decide +kernel
theorem d_L_law_741 : decode code 741 = .ok (.iload 4, 2) := by decide +kernel
theorem d_L_law_743 : decode code 743 = .ok (.iconst 3, 1) := by decide +kernel
theorem d_L_law_744 : decode code 744 = .ok (.iadd, 1) := by decide +kernel
theorem d_L_law_745 : decode code 745 = .ok (.iaload, 1) := by decide +kernel
theorem d_L_law_746 : decode code 746 = .ok (.aload_n 0, 1) := by decide +kernel
theorem d_L_law_747 : decode code 747 = .ok (.iload 4, 2) := by decide +kernel
theorem d_L_law_749 : decode code 749 = .ok (.iconst 4, 1) := by decide +kernel
theorem d_L_law_750 : decode code 750 = .ok (.iadd, 1) := by decide +kernel
theorem d_L_law_751 : decode code 751 = .ok (.iaload, 1) := by decide +kernel
theorem d_L_law_752 : decode code 752 = .ok (.invokevirtual 116, 3) := by decide +kernel
theorem d_L_law_755 : decode code 755 = .ok (.istore 6, 2) := by decide +kernel
theorem d_L_law_757 : decode code 757 = .ok (.aload_n 2, 1) := by decide +kernel
theorem d_L_law_758 : decode code 758 = .ok (.invokevirtual 83, 3) := by decide +kernel
theorem d_L_law_761 : decode code 761 = .ok (.iload 5, 2) := by decide +kernel
