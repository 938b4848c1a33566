theorem d_La_law_568 : decode code 568 = .ok (.iconst 3, 1) := by decide +kernel
theorem d_La_law_569 : decode code 569 = .ok (.iadd, 1) := by decide +kernel
theorem d_La_law_570 : decode code 570 = .ok (.iaload, 1) := by decide +kernel
theorem d_La_law_571 : decode code 571 = .ok (.aload_n 3, 1) := by decide +kernel
theorem d_La_law_572 : decode code 572 = .ok (.invokestatic 87, 3) := by decide +kernel
theorem d_La_law_575 : decode code 575 = .ok (.istore 5, 2) := by decide +kernel
theorem d_La_law_577 : decode code 577 = .ok (.aload_n 2, 1) := by decide +kernel
theorem d_La_law_578 : decode code 578 = .ok (.aload_n 0, 1) := by decide +kernel
theorem d_La_law_579 : decode code 579 = .ok (.iload 4, 2) := by decide +kernel
theorem d_La_law_581 : decode code 581 = .ok (.iconst 1, 1) := by decide +kernel
theorem d_La_law_582 : decode code 582 = .ok (.iadd, 1) := by decide +kernel
theorem d_La_law_583 : decode code 583 = .ok (.iaload, 1) := by decide +kernel
theorem d_La_law_584 : decode code 584 = .ok (.aload_n 0, 1) := by decide +kernel
theorem d_La_law_585 : decode code 585 = .ok (.iload 4, 2) := by decide +kernel
theorem d_La_law_587 : decode code 587 = .ok (.iconst 2, 1) := by decide +kernel
theorem d_La_law_588 : decode code 588 = .ok (.iadd, 1) := by decide +kernel
theorem d_La_law_589 : decode code 589 = .ok (.iaload, 1) := by decide +kernel
theorem d_La_law_590 : decode code 590 = .ok (.aload_n 0, 1) := by decide +kernel
theorem d_La_law_591 : decode code 591 = .ok (.iload 4, 2) := by decide +kernel
theorem d_La_law_593 : decode code 593 = .ok (.iconst 3, 1) := by decide +kernel
theorem d_La_law_594 : decode code 594 = .ok (.iadd, 1) := by decide +kernel
theorem d_La_law_595 : decode code 595 = .ok (.iaload, 1) := by decide +kernel
theorem d_La_law_596 : decode code 596 = .ok (.invokevirtual 89, 3) := by decide +kernel
theorem d_La_law_599 : decode code 599 = .ok (.istore 6, 2) := by decide +kernel
theorem d_La_law_601 : decode code 601 = .ok (.aload_n 2, 1) := by decide +kernel
theorem d_La_law_602 : decode code 602 = .ok (.invokevirtual 62, 3) := by decide +kernel
theorem d_La_law_605 : decode code 605 = .ok (.iload 5, 2) := by decide +kernel
theorem d_La_law_607 : decode code 607 = .ok (.if_icmp .eq 5, 3) := by decide +kernel
theorem d_La_law_610 : decode code 610 = .ok (.iconst 0, 1) := by decide +kernel
theorem d_La_law_611 : decode code 611 = .ok (.ireturn, 1) := by decide +kernel
theorem d_La_law_612 : decode code 612 = .ok (.iload 5, 2) := by decide +kernel
theorem d_La_law_614 : decode code 614 = .ok (.ifCond .ne 15, 3) := by decide +kernel
theorem d_La_law_617 : decode code 617 = .ok (.aload_n 3, 1) := by decide +kernel
theorem d_La_law_618 : decode code 618 = .ok (.iconst 0, 1) := by decide +kernel
theorem d_La_law_619 : decode code 619 = .ok (.laload, 1) := by decide +kernel
theorem d_La_law_620 : decode code 620 = .ok (.iload 6, 2) := by decide +kernel
theorem d_La_law_622 : decode code 622 = .ok (.i2l, 1) := by decide +kernel
theorem d_La_law_623 : decode code 623 = .ok (.lcmp, 1) := by decide +kernel
theorem d_La_law_624 : decode code 624 = .ok (.ifCond .eq 5, 3) := by decide +kernel
theorem d_La_law_627 : decode code 627 = .ok (.iconst 0, 1) := by decide +kernel
theorem d_La_law_628 : decode code 628 = .ok (.ireturn, 1) := by decide +kernel
theorem d_La_law_629 : decode code 629 = .ok (.goto 171, 3) := by decide +kernel
theorem d_La_law_632 : decode code 632 = .ok (.aload_n 1, 1) := by decide +kernel
theorem d_La_law_633 : decode code 633 = .ok (.aload_n 0, 1) := by decide +kernel
theorem d_La_law_634 : decode code 634 = .ok (.iload 4, 2) := by decide +kernel
theorem d_La_law_636 : decode code 636 = .ok (.iconst 1, 1) := by decide +kernel
theorem d_La_law_637 : decode code 637 = .ok (.iadd, 1) := by decide +kernel
theorem d_La_law_638 : decode code 638 = .ok (.iaload, 1) := by decide +kernel
theorem d_La_law_639 : decode code 639 = .ok (.aload_n 3, 1) := by decide +kernel
theorem d_La_law_640 : decode code 640 = .ok (.invokestatic 90, 3) := by decide +kernel
theorem d_La_law_643 : decode code 643 = .ok (.istore 5, 2) := by decide +kernel
theorem d_La_law_645 : decode code 645 = .ok (.aload_n 2, 1) := by decide +kernel
theorem d_La_law_646 : decode code 646 = .ok (.aload_n 0, 1) := by decide +kernel
theorem d_La_law_647 : decode code 647 = .ok (.iload 4, 2) := by decide +kernel
theorem d_La_law_649 : decode code 649 = .ok (.iconst 1, 1) := by decide +kernel
theorem d_La_law_650 : decode code 650 = .ok (.iadd, 1) := by decide +kernel
theorem d_La_law_651 : decode code 651 = .ok (.iaload, 1) := by decide +kernel
theorem d_La_law_652 : decode code 652 = .ok (.invokevirtual 92, 3) := by decide +kernel
theorem d_La_law_655 : decode code 655 = .ok (.istore 6, 2) := by decide +kernel
theorem d_La_law_657 : decode code 657 = .ok (.aload_n 2, 1) := by decide +kernel
theorem d_La_law_658 : decode code 658 = .ok (.invokevirtual 62, 3) := by decide +kernel
theorem d_La_law_661 : decode code 661 = .ok (.iload 5, 2) := by decide +kernel
theorem d_La_law_663 : decode code 663 = .ok (.if_icmp .eq 5, 3) := by decide +kernel
theorem d_La_law_666 : decode code 666 = .ok (.iconst 0, 1) := by decide +kernel
theorem d_La_law_667 : decode code 667 = .ok (.ireturn, 1) := by decide +kernel
theorem d_La_law_668 : decode code 668 = .ok (.iload 5, 2) := by decide +kernel
theorem d_La_law_670 : decode code 670 = .ok (.ifCond .ne 15, 3) := by decide +kernel
theorem d_La_law_673 : decode code 673 = .ok (.aload_n 3, 1) := by decide +kernel
theorem d_La_law_674 : decode code 674 = .ok (.iconst 0, 1) := by decide +kernel
theorem d_La_law_675 : decode code 675 = .ok (.laload, 1) := by decide +kernel
theorem d_La_law_676 : decode code 676 = .ok (.iload 6, 2) := by decide +kernel
theorem d_La_law_678 : decode code 678 = .ok (.i2l, 1) := by decide +kernel
theorem d_La_law_679 : decode code 679 = .ok (.lcmp, 1) := by decide +kernel
theorem d_La_law_680 : decode code 680 = .ok (.ifCond .eq 5, 3) := by decide +kernel
theorem d_La_law_683 : decode code 683 = .ok (.iconst 0, 1) := by decide +kernel
theorem d_La_law_684 : decode code 684 = .ok (.ireturn, 1) := by decide +kernel
theorem d_La_law_685 : decode code 685 = .ok (.goto 115, 3) := by decide +kernel
theorem d_La_law_688 : decode code 688 = .ok (.aload_n 1, 1) := by decide +kernel
theorem d_La_law_689 : decode code 689 = .ok (.aload_n 0, 1) := by decide +kernel
theorem d_La_law_690 : decode code 690 = .ok (.iload 4, 2) := by decide +kernel
theorem d_La_law_692 : decode code 692 = .ok (.iconst 1, 1) := by decide +kernel
theorem d_La_law_693 : decode code 693 = .ok (.iadd, 1) := by decide +kernel
theorem d_La_law_694 : decode code 694 = .ok (.iaload, 1) := by decide +kernel
theorem d_La_law_695 : decode code 695 = .ok (.aload_n 3, 1) := by decide +kernel
theorem d_La_law_696 : decode code 696 = .ok (.invokestatic 93, 3) := by decide +kernel
theorem d_La_law_699 : decode code 699 = .ok (.istore 5, 2) := by decide +kernel
theorem d_La_law_701 : decode code 701 = .ok (.aload_n 2, 1) := by decide +kernel
theorem d_La_law_702 : decode code 702 = .ok (.aload_n 0, 1) := by decide +kernel
theorem d_La_law_703 : decode code 703 = .ok (.iload 4, 2) := by decide +kernel
theorem d_La_law_705 : decode code 705 = .ok (.iconst 1, 1) := by decide +kernel
theorem d_La_law_706 : decode code 706 = .ok (.iadd, 1) := by decide +kernel
theorem d_La_law_707 : decode code 707 = .ok (.iaload, 1) := by decide +kernel
theorem d_La_law_708 : decode code 708 = .ok (.invokevirtual 95, 3) := by decide +kernel
theorem d_La_law_711 : decode code 711 = .ok (.istore 6, 2) := by decide +kernel
theorem d_La_law_713 : decode code 713 = .ok (.aload_n 2, 1) := by decide +kernel
theorem d_La_law_714 : decode code 714 = .ok (.invokevirtual 62, 3) := by decide +kernel
theorem d_La_law_717 : decode code 717 = .ok (.iload 5, 2) := by decide +kernel
theorem d_La_law_719 : decode code 719 = .ok (.if_icmp .eq 5, 3) := by decide +kernel
theorem d_La_law_722 : decode code 722 = .ok (.iconst 0, 1) := by decide +kernel
theorem d_La_law_723 : decode code 723 = .ok (.ireturn, 1) := by decide +kernel
theorem d_La_law_724 : decode code 724 = .ok (.iload 5, 2) := by decide +kernel
theorem d_La_law_726 : decode code 726 = .ok (.ifCond .ne 15, 3) := by decide +kernel
theorem d_La_law_729 : decode code 729 = .ok (.aload_n 3, 1) := by decide +kernel
theorem d_La_law_730 : decode code 730 = .ok (.iconst 0, 1) := by decide +kernel
theorem d_La_law_731 : decode code 731 = .ok (.laload, 1) := by decide +kernel
theorem d_La_law_732 : decode code 732 = .ok (.iload 6, 2) := by decide +kernel
theorem d_La_law_734 : decode code 734 = .ok (.i2l, 1) := by decide +kernel
theorem d_La_law_735 : decode code 735 = .ok (.lcmp, 1) := by decide +kernel
theorem d_La_law_736 : decode code 736 = .ok (.ifCond .eq 5, 3) := by decide +kernel
theorem d_La_law_739 : decode code 739 = .ok (.iconst 0, 1) := by decide +kernel
theorem d_La_law_740 : decode code 740 = .ok (.ireturn, 1) := by decide +kernel
theorem d_La_law_741 : decode code 741 = .ok (.goto 59, 3) := by decide +kernel
theorem d_La_law_744 : decode code 744 = .ok (.aload_n 1, 1) := by decide +kernel
theorem d_La_law_745 : decode code 745 = .ok (.aload_n 0, 1) := by decide +kernel
theorem d_La_law_746 : decode code 746 = .ok (.iload 4, 2) := by decide +kernel
theorem d_La_law_748 : decode code 748 = .ok (.iconst 1, 1) := by decide +kernel
theorem d_La_law_749 : decode code 749 = .ok (.iadd, 1) := by decide +kernel
theorem d_La_law_750 : decode code 750 = .ok (.iaload, 1) := by decide +kernel
theorem d_La_law_751 : decode code 751 = .ok (.aload_n 3, 1) := by decide +kernel
theorem d_La_law_752 : decode code 752 = .ok (.invokestatic 96, 3) := by decide +kernel
theorem d_La_law_755 : decode code 755 = .ok (.istore 5, 2) := by decide +kernel
theorem d_La_law_757 : decode code 757 = .ok (.aload_n 2, 1) := by decide +kernel
theorem d_La_law_758 : decode code 758 = .ok (.aload_n 0, 1) := by decide +kernel
theorem d_La_law_759 : decode code 759 = .ok (.iload 4, 2) := by decide +kernel
theorem d_La_law_761 : decode code 761 = .ok (.iconst 1, 1) := by decide +kernel
theorem d_La_law_762 : decode code 762 = .ok (.iadd, 1) := by decide +kernel
theorem d_La_law_763 : decode code 763 = .ok (.iaload, 1) := by decide +kernel
theorem d_La_law_764 : decode code 764 = .ok (.invokevirtual 98, 3) := by decide +kernel
theorem d_La_law_767 : decode code 767 = .ok (.istore 6, 2) := by decide +kernel
theorem d_La_law_769 : decode code 769 = .ok (.aload_n 2, 1) := by decide +kernel
theorem d_La_law_770 : decode code 770 = .ok (.invokevirtual 62, 3) := by decide +kernel
theorem d_La_law_773 : decode code 773 = .ok (.iload 5, 2) := by decide +kernel
theorem d_La_law_775 : decode code 775 = .ok (.if_icmp .eq 5, 3) := by decide +kernel
theorem d_La_law_778 : decode code 778 = .ok (.iconst 0, 1) := by decide +kernel
theorem d_La_law_779 : decode code 779 = .ok (.ireturn, 1) := by decide +kernel
theorem d_La_law_780 : decode code 780 = .ok (.iload 5, 2) := by decide +kernel
theorem d_La_law_782 : decode code 782 = .ok (.ifCond .ne 15, 3) := by decide +kernel
theorem d_La_law_785 : decode code 785 = .ok (.aload_n 3, 1) := by decide +kernel
theorem d_La_law_786 : decode code 786 = .ok (.iconst 0, 1) := by decide +kernel
theorem d_La_law_787 : decode code 787 = .ok (.laload, 1) := by decide +kernel
theorem d_La_law_788 : decode code 788 = .ok (.iload 6, 2) := by decide +kernel
theorem d_La_law_790 : decode code 790 = .ok (.i2l, 1) := by decide +kernel
theorem d_La_law_791 : decode code 791 = .ok (.lcmp, 1) := by decide +kernel
theorem d_La_law_792 : decode code 792 = .ok (.ifCond .eq 5, 3) := by decide +kernel
theorem d_La_law_795 : decode code 795 = .ok (.iconst 0, 1) := by decide +kernel
theorem d_La_law_796 : decode code 796 = .ok (.ireturn, 1) := by decide +kernel
theorem d_La_law_797 : decode code 797 = .ok (.goto 3, 3) := by decide +kernel
theorem d_La_law_800 : decode code 800 = .ok (.iinc 4 4, 3) := by decide +kernel
theorem d_La_law_803 : decode code 803 = .ok (.goto (-780), 3) := by decide +kernel
theorem d_La_law_806 : decode code 806 = .ok (.iconst 1, 1) := by decide +kernel
theorem d_La_law_807 : decode code 807 = .ok (.ireturn, 1) := by decide +kernel
