theorem dW_544 : decode code 544 = .ok (.aload_n 0, 1) := by decide +kernel
theorem dW_545 : decode code 545 = .ok (.iload 4, 2) := by decide +kernel
theorem dW_547 : decode code 547 = .ok (.iconst 3, 1) := by decide +kernel
theorem dW_548 : decode code 548 = .ok (.iadd, 1) := by decide +kernel
theorem dW_549 : decode code 549 = .ok (.iaload, 1) := by decide +kernel
theorem dW_550 : decode code 550 = .ok (.invokevirtual 95, 3) := by decide +kernel
theorem dW_553 : decode code 553 = .ok (.istore 6, 2) := by decide +kernel
theorem dW_555 : decode code 555 = .ok (.aload_n 2, 1) := by decide +kernel
theorem dW_556 : decode code 556 = .ok (.invokevirtual 77, 3) := by decide +kernel
theorem dW_559 : decode code 559 = .ok (.iload 5, 2) := by decide +kernel
theorem dW_561 : decode code 561 = .ok (.if_icmp .eq 5, 3) := by decide +kernel
theorem dW_564 : decode code 564 = .ok (.iconst 0, 1) := by decide +kernel
theorem dW_565 : decode code 565 = .ok (.ireturn, 1) := by decide +kernel
theorem dW_566 : decode code 566 = .ok (.iload 5, 2) := by decide +kernel
theorem dW_568 : decode code 568 = .ok (.ifCond .ne 22, 3) := by decide +kernel
theorem dW_571 : decode code 571 = .ok (.aload_n 3, 1) := by decide +kernel
theorem dW_572 : decode code 572 = .ok (.iconst 0, 1) := by decide +kernel
theorem dW_573 : decode code 573 = .ok (.laload, 1) := by decide +kernel
theorem dW_574 : decode code 574 = .ok (.iload 6, 2) := by decide +kernel
theorem dW_576 : decode code 576 = .ok (.ifCond .eq 7, 3) := by decide +kernel
theorem dW_579 : decode code 579 = .ok (.lconst 1, 1) := by decide +kernel
theorem dW_580 : decode code 580 = .ok (.goto 4, 3) := by decide +kernel
theorem dW_583 : decode code 583 = .ok (.lconst 0, 1) := by decide +kernel
theorem dW_584 : decode code 584 = .ok (.lcmp, 1) := by decide +kernel
theorem dW_585 : decode code 585 = .ok (.ifCond .eq 5, 3) := by decide +kernel
theorem dW_588 : decode code 588 = .ok (.iconst 0, 1) := by decide +kernel
theorem dW_589 : decode code 589 = .ok (.ireturn, 1) := by decide +kernel
theorem dW_590 : decode code 590 = .ok (.goto 862, 3) := by decide +kernel
theorem dW_593 : decode code 593 = .ok (.aload_n 1, 1) := by decide +kernel
theorem dW_594 : decode code 594 = .ok (.aload_n 0, 1) := by decide +kernel
theorem dW_595 : decode code 595 = .ok (.iload 4, 2) := by decide +kernel
theorem dW_597 : decode code 597 = .ok (.iconst 1, 1) := by decide +kernel
theorem dW_598 : decode code 598 = .ok (.iadd, 1) := by decide +kernel
theorem dW_599 : decode code 599 = .ok (.iaload, 1) := by decide +kernel
theorem dW_600 : decode code 600 = .ok (.aload_n 0, 1) := by decide +kernel
theorem dW_601 : decode code 601 = .ok (.iload 4, 2) := by decide +kernel
theorem dW_603 : decode code 603 = .ok (.iconst 2, 1) := by decide +kernel
theorem dW_604 : decode code 604 = .ok (.iadd, 1) := by decide +kernel
theorem dW_605 : decode code 605 = .ok (.iaload, 1) := by decide +kernel
theorem dW_606 : decode code 606 = .ok (.aload_n 0, 1) := by decide +kernel
theorem dW_607 : decode code 607 = .ok (.iload 4, 2) := by decide +kernel
theorem dW_609 : decode code 609 = .ok (.iconst 3, 1) := by decide +kernel
theorem dW_610 : decode code 610 = .ok (.iadd, 1) := by decide +kernel
theorem dW_611 : decode code 611 = .ok (.iaload, 1) := by decide +kernel
theorem dW_612 : decode code 612 = .ok (.aload_n 3, 1) := by decide +kernel
theorem dW_613 : decode code 613 = .ok (.invokestatic 96, 3) := by decide +kernel
theorem dW_616 : decode code 616 = .ok (.istore 5, 2) := by decide +kernel
theorem dW_618 : decode code 618 = .ok (.aload_n 2, 1) := by decide +kernel
theorem dW_619 : decode code 619 = .ok (.aload_n 0, 1) := by decide +kernel
theorem dW_620 : decode code 620 = .ok (.iload 4, 2) := by decide +kernel
theorem dW_622 : decode code 622 = .ok (.iconst 1, 1) := by decide +kernel
theorem dW_623 : decode code 623 = .ok (.iadd, 1) := by decide +kernel
theorem dW_624 : decode code 624 = .ok (.iaload, 1) := by decide +kernel
theorem dW_625 : decode code 625 = .ok (.aload_n 0, 1) := by decide +kernel
theorem dW_626 : decode code 626 = .ok (.iload 4, 2) := by decide +kernel
theorem dW_628 : decode code 628 = .ok (.iconst 2, 1) := by decide +kernel
theorem dW_629 : decode code 629 = .ok (.iadd, 1) := by decide +kernel
theorem dW_630 : decode code 630 = .ok (.iaload, 1) := by decide +kernel
theorem dW_631 : decode code 631 = .ok (.aload_n 0, 1) := by decide +kernel
theorem dW_632 : decode code 632 = .ok (.iload 4, 2) := by decide +kernel
theorem dW_634 : decode code 634 = .ok (.iconst 3, 1) := by decide +kernel
theorem dW_635 : decode code 635 = .ok (.iadd, 1) := by decide +kernel
theorem dW_636 : decode code 636 = .ok (.iaload, 1) := by decide +kernel
theorem dW_637 : decode code 637 = .ok (.invokevirtual 98, 3) := by decide +kernel
theorem dW_640 : decode code 640 = .ok (.istore 6, 2) := by decide +kernel
theorem dW_642 : decode code 642 = .ok (.aload_n 2, 1) := by decide +kernel
theorem dW_643 : decode code 643 = .ok (.invokevirtual 77, 3) := by decide +kernel
theorem dW_646 : decode code 646 = .ok (.iload 5, 2) := by decide +kernel
theorem dW_648 : decode code 648 = .ok (.if_icmp .eq 5, 3) := by decide +kernel
theorem dW_651 : decode code 651 = .ok (.iconst 0, 1) := by decide +kernel
theorem dW_652 : decode code 652 = .ok (.ireturn, 1) := by decide +kernel
theorem dW_653 : decode code 653 = .ok (.iload 5, 2) := by decide +kernel
theorem dW_655 : decode code 655 = .ok (.ifCond .ne 22, 3) := by decide +kernel
theorem dW_658 : decode code 658 = .ok (.aload_n 3, 1) := by decide +kernel
theorem dW_659 : decode code 659 = .ok (.iconst 0, 1) := by decide +kernel
theorem dW_660 : decode code 660 = .ok (.laload, 1) := by decide +kernel
theorem dW_661 : decode code 661 = .ok (.iload 6, 2) := by decide +kernel
theorem dW_663 : decode code 663 = .ok (.ifCond .eq 7, 3) := by decide +kernel
theorem dW_666 : decode code 666 = .ok (.lconst 1, 1) := by decide +kernel
theorem dW_667 : decode code 667 = .ok (.goto 4, 3) := by decide +kernel
theorem dW_670 : decode code 670 = .ok (.lconst 0, 1) := by decide +kernel
theorem dW_671 : decode code 671 = .ok (.lcmp, 1) := by decide +kernel
theorem dW_672 : decode code 672 = .ok (.ifCond .eq 5, 3) := by decide +kernel
theorem dW_675 : decode code 675 = .ok (.iconst 0, 1) := by decide +kernel
theorem dW_676 : decode code 676 = .ok (.ireturn, 1) := by decide +kernel
theorem dW_677 : decode code 677 = .ok (.goto 775, 3) := by decide +kernel
theorem dW_680 : decode code 680 = .ok (.aload_n 1, 1) := by decide +kernel
theorem dW_681 : decode code 681 = .ok (.aload_n 0, 1) := by decide +kernel
theorem dW_682 : decode code 682 = .ok (.iload 4, 2) := by decide +kernel
theorem dW_684 : decode code 684 = .ok (.iconst 1, 1) := by decide +kernel
theorem dW_685 : decode code 685 = .ok (.iadd, 1) := by decide +kernel
theorem dW_686 : decode code 686 = .ok (.iaload, 1) := by decide +kernel
theorem dW_687 : decode code 687 = .ok (.aload_n 0, 1) := by decide +kernel
theorem dW_688 : decode code 688 = .ok (.iload 4, 2) := by decide +kernel
theorem dW_690 : decode code 690 = .ok (.iconst 2, 1) := by decide +kernel
theorem dW_691 : decode code 691 = .ok (.iadd, 1) := by decide +kernel
theorem dW_692 : decode code 692 = .ok (.iaload, 1) := by decide +kernel
theorem dW_693 : decode code 693 = .ok (.aload_n 0, 1) := by decide +kernel
theorem dW_694 : decode code 694 = .ok (.iload 4, 2) := by decide +kernel
theorem dW_696 : decode code 696 = .ok (.iconst 3, 1) := by decide +kernel
theorem dW_697 : decode code 697 = .ok (.iadd, 1) := by decide +kernel
theorem dW_698 : decode code 698 = .ok (.iaload, 1) := by decide +kernel
theorem dW_699 : decode code 699 = .ok (.aload_n 3, 1) := by decide +kernel
theorem dW_700 : decode code 700 = .ok (.invokestatic 99, 3) := by decide +kernel
theorem dW_703 : decode code 703 = .ok (.istore 5, 2) := by decide +kernel
theorem dW_705 : decode code 705 = .ok (.aload_n 2, 1) := by decide +kernel
theorem dW_706 : decode code 706 = .ok (.aload_n 0, 1) := by decide +kernel
theorem dW_707 : decode code 707 = .ok (.iload 4, 2) := by decide +kernel
theorem dW_709 : decode code 709 = .ok (.iconst 1, 1) := by decide +kernel
theorem dW_710 : decode code 710 = .ok (.iadd, 1) := by decide +kernel
theorem dW_711 : decode code 711 = .ok (.iaload, 1) := by decide +kernel
theorem dW_712 : decode code 712 = .ok (.aload_n 0, 1) := by decide +kernel
theorem dW_713 : decode code 713 = .ok (.iload 4, 2) := by decide +kernel
theorem dW_715 : decode code 715 = .ok (.iconst 2, 1) := by decide +kernel
theorem dW_716 : decode code 716 = .ok (.iadd, 1) := by decide +kernel
theorem dW_717 : decode code 717 = .ok (.iaload, 1) := by decide +kernel
theorem dW_718 : decode code 718 = .ok (.aload_n 0, 1) := by decide +kernel
theorem dW_719 : decode code 719 = .ok (.iload 4, 2) := by decide +kernel
theorem dW_721 : decode code 721 = .ok (.iconst 3, 1) := by decide +kernel
theorem dW_722 : decode code 722 = .ok (.iadd, 1) := by decide +kernel
theorem dW_723 : decode code 723 = .ok (.iaload, 1) := by decide +kernel
theorem dW_724 : decode code 724 = .ok (.invokevirtual 101, 3) := by decide +kernel
theorem dW_727 : decode code 727 = .ok (.istore 6, 2) := by decide +kernel
theorem dW_729 : decode code 729 = .ok (.aload_n 2, 1) := by decide +kernel
theorem dW_730 : decode code 730 = .ok (.invokevirtual 77, 3) := by decide +kernel
theorem dW_733 : decode code 733 = .ok (.iload 5, 2) := by decide +kernel
theorem dW_735 : decode code 735 = .ok (.if_icmp .eq 5, 3) := by decide +kernel
theorem dW_738 : decode code 738 = .ok (.iconst 0, 1) := by decide +kernel
theorem dW_739 : decode code 739 = .ok (.ireturn, 1) := by decide +kernel
theorem dW_740 : decode code 740 = .ok (.iload 5, 2) := by decide +kernel
theorem dW_742 : decode code 742 = .ok (.ifCond .ne 22, 3) := by decide +kernel
theorem dW_745 : decode code 745 = .ok (.aload_n 3, 1) := by decide +kernel
theorem dW_746 : decode code 746 = .ok (.iconst 0, 1) := by decide +kernel
theorem dW_747 : decode code 747 = .ok (.laload, 1) := by decide +kernel
theorem dW_748 : decode code 748 = .ok (.iload 6, 2) := by decide +kernel
theorem dW_750 : decode code 750 = .ok (.ifCond .eq 7, 3) := by decide +kernel
theorem dW_753 : decode code 753 = .ok (.lconst 1, 1) := by decide +kernel
theorem dW_754 : decode code 754 = .ok (.goto 4, 3) := by decide +kernel
theorem dW_757 : decode code 757 = .ok (.lconst 0, 1) := by decide +kernel
theorem dW_758 : decode code 758 = .ok (.lcmp, 1) := by decide +kernel
theorem dW_759 : decode code 759 = .ok (.ifCond .eq 5, 3) := by decide +kernel
theorem dW_762 : decode code 762 = .ok (.iconst 0, 1) := by decide +kernel
theorem dW_763 : decode code 763 = .ok (.ireturn, 1) := by decide +kernel
theorem dW_764 : decode code 764 = .ok (.goto 688, 3) := by decide +kernel
theorem dW_767 : decode code 767 = .ok (.aload_n 1, 1) := by decide +kernel
theorem dW_768 : decode code 768 = .ok (.aload_n 0, 1) := by decide +kernel
theorem dW_769 : decode code 769 = .ok (.iload 4, 2) := by decide +kernel
theorem dW_771 : decode code 771 = .ok (.iconst 1, 1) := by decide +kernel
theorem dW_772 : decode code 772 = .ok (.iadd, 1) := by decide +kernel
theorem dW_773 : decode code 773 = .ok (.iaload, 1) := by decide +kernel
theorem dW_774 : decode code 774 = .ok (.aload_n 0, 1) := by decide +kernel
theorem dW_775 : decode code 775 = .ok (.iload 4, 2) := by decide +kernel
theorem dW_777 : decode code 777 = .ok (.iconst 2, 1) := by decide +kernel
theorem dW_778 : decode code 778 = .ok (.iadd, 1) := by decide +kernel
theorem dW_779 : decode code 779 = .ok (.iaload, 1) := by decide +kernel
theorem dW_780 : decode code 780 = .ok (.aload_n 3, 1) := by decide +kernel
theorem dW_781 : decode code 781 = .ok (.invokestatic 102, 3) := by decide +kernel
theorem dW_784 : decode code 784 = .ok (.istore 5, 2) := by decide +kernel
theorem dW_786 : decode code 786 = .ok (.aload_n 2, 1) := by decide +kernel
theorem dW_787 : decode code 787 = .ok (.aload_n 0, 1) := by decide +kernel
