/-! THE LAW: rows 2 (written by gen/glaw.py) -/
theorem dL_law_554 : decode cL_law 554 = .ok (.iload 4, 2) := by decide +kernel
theorem dL_law_556 : decode cL_law 556 = .ok (.iconst 3, 1) := by decide +kernel
theorem dL_law_557 : decode cL_law 557 = .ok (.iadd, 1) := by decide +kernel
theorem dL_law_558 : decode cL_law 558 = .ok (.iaload, 1) := by decide +kernel
theorem dL_law_559 : decode cL_law 559 = .ok (.aload_n 0, 1) := by decide +kernel
theorem dL_law_560 : decode cL_law 560 = .ok (.iload 4, 2) := by decide +kernel
theorem dL_law_562 : decode cL_law 562 = .ok (.iconst 4, 1) := by decide +kernel
theorem dL_law_563 : decode cL_law 563 = .ok (.iadd, 1) := by decide +kernel
theorem dL_law_564 : decode cL_law 564 = .ok (.iaload, 1) := by decide +kernel
theorem dL_law_565 : decode cL_law 565 = .ok (.aload_n 0, 1) := by decide +kernel
theorem dL_law_566 : decode cL_law 566 = .ok (.iload 4, 2) := by decide +kernel
theorem dL_law_568 : decode cL_law 568 = .ok (.iconst 5, 1) := by decide +kernel
theorem dL_law_569 : decode cL_law 569 = .ok (.iadd, 1) := by decide +kernel
theorem dL_law_570 : decode cL_law 570 = .ok (.iaload, 1) := by decide +kernel
theorem dL_law_571 : decode cL_law 571 = .ok (.aload_n 0, 1) := by decide +kernel
theorem dL_law_572 : decode cL_law 572 = .ok (.iload 4, 2) := by decide +kernel
theorem dL_law_574 : decode cL_law 574 = .ok (.bipush 6, 2) := by decide +kernel
theorem dL_law_576 : decode cL_law 576 = .ok (.iadd, 1) := by decide +kernel
theorem dL_law_577 : decode cL_law 577 = .ok (.iaload, 1) := by decide +kernel
theorem dL_law_578 : decode cL_law 578 = .ok (.aload_n 0, 1) := by decide +kernel
theorem dL_law_579 : decode cL_law 579 = .ok (.iload 4, 2) := by decide +kernel
theorem dL_law_581 : decode cL_law 581 = .ok (.bipush 7, 2) := by decide +kernel
theorem dL_law_583 : decode cL_law 583 = .ok (.iadd, 1) := by decide +kernel
theorem dL_law_584 : decode cL_law 584 = .ok (.iaload, 1) := by decide +kernel
theorem dL_law_585 : decode cL_law 585 = .ok (.aload_n 0, 1) := by decide +kernel
theorem dL_law_586 : decode cL_law 586 = .ok (.iload 4, 2) := by decide +kernel
theorem dL_law_588 : decode cL_law 588 = .ok (.bipush 8, 2) := by decide +kernel
theorem dL_law_590 : decode cL_law 590 = .ok (.iadd, 1) := by decide +kernel
theorem dL_law_591 : decode cL_law 591 = .ok (.iaload, 1) := by decide +kernel
theorem dL_law_592 : decode cL_law 592 = .ok (.invokevirtual 56, 3) := by decide +kernel
theorem dL_law_595 : decode cL_law 595 = .ok (.aload_n 2, 1) := by decide +kernel
theorem dL_law_596 : decode cL_law 596 = .ok (.aload_n 0, 1) := by decide +kernel
theorem dL_law_597 : decode cL_law 597 = .ok (.iload 4, 2) := by decide +kernel
theorem dL_law_599 : decode cL_law 599 = .ok (.iconst 1, 1) := by decide +kernel
theorem dL_law_600 : decode cL_law 600 = .ok (.iadd, 1) := by decide +kernel
theorem dL_law_601 : decode cL_law 601 = .ok (.iaload, 1) := by decide +kernel
theorem dL_law_602 : decode cL_law 602 = .ok (.aload_n 0, 1) := by decide +kernel
theorem dL_law_603 : decode cL_law 603 = .ok (.iload 4, 2) := by decide +kernel
theorem dL_law_605 : decode cL_law 605 = .ok (.iconst 2, 1) := by decide +kernel
theorem dL_law_606 : decode cL_law 606 = .ok (.iadd, 1) := by decide +kernel
theorem dL_law_607 : decode cL_law 607 = .ok (.iaload, 1) := by decide +kernel
theorem dL_law_608 : decode cL_law 608 = .ok (.aload_n 0, 1) := by decide +kernel
theorem dL_law_609 : decode cL_law 609 = .ok (.iload 4, 2) := by decide +kernel
theorem dL_law_611 : decode cL_law 611 = .ok (.iconst 3, 1) := by decide +kernel
theorem dL_law_612 : decode cL_law 612 = .ok (.iadd, 1) := by decide +kernel
theorem dL_law_613 : decode cL_law 613 = .ok (.iaload, 1) := by decide +kernel
theorem dL_law_614 : decode cL_law 614 = .ok (.aload_n 0, 1) := by decide +kernel
theorem dL_law_615 : decode cL_law 615 = .ok (.iload 4, 2) := by decide +kernel
theorem dL_law_617 : decode cL_law 617 = .ok (.iconst 4, 1) := by decide +kernel
theorem dL_law_618 : decode cL_law 618 = .ok (.iadd, 1) := by decide +kernel
theorem dL_law_619 : decode cL_law 619 = .ok (.iaload, 1) := by decide +kernel
theorem dL_law_620 : decode cL_law 620 = .ok (.aload_n 0, 1) := by decide +kernel
theorem dL_law_621 : decode cL_law 621 = .ok (.iload 4, 2) := by decide +kernel
theorem dL_law_623 : decode cL_law 623 = .ok (.iconst 5, 1) := by decide +kernel
theorem dL_law_624 : decode cL_law 624 = .ok (.iadd, 1) := by decide +kernel
theorem dL_law_625 : decode cL_law 625 = .ok (.iaload, 1) := by decide +kernel
theorem dL_law_626 : decode cL_law 626 = .ok (.aload_n 0, 1) := by decide +kernel
theorem dL_law_627 : decode cL_law 627 = .ok (.iload 4, 2) := by decide +kernel
theorem dL_law_629 : decode cL_law 629 = .ok (.bipush 6, 2) := by decide +kernel
theorem dL_law_631 : decode cL_law 631 = .ok (.iadd, 1) := by decide +kernel
theorem dL_law_632 : decode cL_law 632 = .ok (.iaload, 1) := by decide +kernel
theorem dL_law_633 : decode cL_law 633 = .ok (.aload_n 0, 1) := by decide +kernel
theorem dL_law_634 : decode cL_law 634 = .ok (.iload 4, 2) := by decide +kernel
theorem dL_law_636 : decode cL_law 636 = .ok (.bipush 7, 2) := by decide +kernel
theorem dL_law_638 : decode cL_law 638 = .ok (.iadd, 1) := by decide +kernel
theorem dL_law_639 : decode cL_law 639 = .ok (.iaload, 1) := by decide +kernel
theorem dL_law_640 : decode cL_law 640 = .ok (.aload_n 0, 1) := by decide +kernel
theorem dL_law_641 : decode cL_law 641 = .ok (.iload 4, 2) := by decide +kernel
theorem dL_law_643 : decode cL_law 643 = .ok (.bipush 8, 2) := by decide +kernel
theorem dL_law_645 : decode cL_law 645 = .ok (.iadd, 1) := by decide +kernel
theorem dL_law_646 : decode cL_law 646 = .ok (.iaload, 1) := by decide +kernel
theorem dL_law_647 : decode cL_law 647 = .ok (.invokevirtual 60, 3) := by decide +kernel
theorem dL_law_650 : decode cL_law 650 = .ok (.if_icmp .eq 1724, 3) := by decide +kernel
theorem dL_law_653 : decode cL_law 653 = .ok (.iconst 0, 1) := by decide +kernel
theorem dL_law_654 : decode cL_law 654 = .ok (.ireturn, 1) := by decide +kernel
theorem dL_law_655 : decode cL_law 655 = .ok (.aload_n 1, 1) := by decide +kernel
theorem dL_law_656 : decode cL_law 656 = .ok (.aload_n 0, 1) := by decide +kernel
theorem dL_law_657 : decode cL_law 657 = .ok (.iload 4, 2) := by decide +kernel
theorem dL_law_659 : decode cL_law 659 = .ok (.iconst 1, 1) := by decide +kernel
theorem dL_law_660 : decode cL_law 660 = .ok (.iadd, 1) := by decide +kernel
theorem dL_law_661 : decode cL_law 661 = .ok (.iaload, 1) := by decide +kernel
theorem dL_law_662 : decode cL_law 662 = .ok (.aload_n 0, 1) := by decide +kernel
theorem dL_law_663 : decode cL_law 663 = .ok (.iload 4, 2) := by decide +kernel
theorem dL_law_665 : decode cL_law 665 = .ok (.iconst 2, 1) := by decide +kernel
theorem dL_law_666 : decode cL_law 666 = .ok (.iadd, 1) := by decide +kernel
theorem dL_law_667 : decode cL_law 667 = .ok (.iaload, 1) := by decide +kernel
theorem dL_law_668 : decode cL_law 668 = .ok (.aload_n 0, 1) := by decide +kernel
theorem dL_law_669 : decode cL_law 669 = .ok (.iload 4, 2) := by decide +kernel
theorem dL_law_671 : decode cL_law 671 = .ok (.iconst 3, 1) := by decide +kernel
theorem dL_law_672 : decode cL_law 672 = .ok (.iadd, 1) := by decide +kernel
theorem dL_law_673 : decode cL_law 673 = .ok (.iaload, 1) := by decide +kernel
theorem dL_law_674 : decode cL_law 674 = .ok (.aload_n 0, 1) := by decide +kernel
theorem dL_law_675 : decode cL_law 675 = .ok (.iload 4, 2) := by decide +kernel
theorem dL_law_677 : decode cL_law 677 = .ok (.iconst 4, 1) := by decide +kernel
theorem dL_law_678 : decode cL_law 678 = .ok (.iadd, 1) := by decide +kernel
theorem dL_law_679 : decode cL_law 679 = .ok (.iaload, 1) := by decide +kernel
theorem dL_law_680 : decode cL_law 680 = .ok (.aload_n 0, 1) := by decide +kernel
theorem dL_law_681 : decode cL_law 681 = .ok (.iload 4, 2) := by decide +kernel
theorem dL_law_683 : decode cL_law 683 = .ok (.iconst 5, 1) := by decide +kernel
theorem dL_law_684 : decode cL_law 684 = .ok (.iadd, 1) := by decide +kernel
theorem dL_law_685 : decode cL_law 685 = .ok (.iaload, 1) := by decide +kernel
theorem dL_law_686 : decode cL_law 686 = .ok (.aload_n 0, 1) := by decide +kernel
theorem dL_law_687 : decode cL_law 687 = .ok (.iload 4, 2) := by decide +kernel
theorem dL_law_689 : decode cL_law 689 = .ok (.bipush 6, 2) := by decide +kernel
theorem dL_law_691 : decode cL_law 691 = .ok (.iadd, 1) := by decide +kernel
theorem dL_law_692 : decode cL_law 692 = .ok (.iaload, 1) := by decide +kernel
theorem dL_law_693 : decode cL_law 693 = .ok (.invokevirtual 61, 3) := by decide +kernel
theorem dL_law_696 : decode cL_law 696 = .ok (.aload_n 2, 1) := by decide +kernel
theorem dL_law_697 : decode cL_law 697 = .ok (.aload_n 0, 1) := by decide +kernel
theorem dL_law_698 : decode cL_law 698 = .ok (.iload 4, 2) := by decide +kernel
theorem dL_law_700 : decode cL_law 700 = .ok (.iconst 1, 1) := by decide +kernel
theorem dL_law_701 : decode cL_law 701 = .ok (.iadd, 1) := by decide +kernel
theorem dL_law_702 : decode cL_law 702 = .ok (.iaload, 1) := by decide +kernel
theorem dL_law_703 : decode cL_law 703 = .ok (.aload_n 0, 1) := by decide +kernel
theorem dL_law_704 : decode cL_law 704 = .ok (.iload 4, 2) := by decide +kernel
theorem dL_law_706 : decode cL_law 706 = .ok (.iconst 2, 1) := by decide +kernel
theorem dL_law_707 : decode cL_law 707 = .ok (.iadd, 1) := by decide +kernel
theorem dL_law_708 : decode cL_law 708 = .ok (.iaload, 1) := by decide +kernel
theorem dL_law_709 : decode cL_law 709 = .ok (.aload_n 0, 1) := by decide +kernel
theorem dL_law_710 : decode cL_law 710 = .ok (.iload 4, 2) := by decide +kernel
theorem dL_law_712 : decode cL_law 712 = .ok (.iconst 3, 1) := by decide +kernel
theorem dL_law_713 : decode cL_law 713 = .ok (.iadd, 1) := by decide +kernel
theorem dL_law_714 : decode cL_law 714 = .ok (.iaload, 1) := by decide +kernel
theorem dL_law_715 : decode cL_law 715 = .ok (.aload_n 0, 1) := by decide +kernel
theorem dL_law_716 : decode cL_law 716 = .ok (.iload 4, 2) := by decide +kernel
theorem dL_law_718 : decode cL_law 718 = .ok (.iconst 4, 1) := by decide +kernel
theorem dL_law_719 : decode cL_law 719 = .ok (.iadd, 1) := by decide +kernel
theorem dL_law_720 : decode cL_law 720 = .ok (.iaload, 1) := by decide +kernel
theorem dL_law_721 : decode cL_law 721 = .ok (.aload_n 0, 1) := by decide +kernel
theorem dL_law_722 : decode cL_law 722 = .ok (.iload 4, 2) := by decide +kernel
theorem dL_law_724 : decode cL_law 724 = .ok (.iconst 5, 1) := by decide +kernel
theorem dL_law_725 : decode cL_law 725 = .ok (.iadd, 1) := by decide +kernel
theorem dL_law_726 : decode cL_law 726 = .ok (.iaload, 1) := by decide +kernel
theorem dL_law_727 : decode cL_law 727 = .ok (.aload_n 0, 1) := by decide +kernel
theorem dL_law_728 : decode cL_law 728 = .ok (.iload 4, 2) := by decide +kernel
theorem dL_law_730 : decode cL_law 730 = .ok (.bipush 6, 2) := by decide +kernel
theorem dL_law_732 : decode cL_law 732 = .ok (.iadd, 1) := by decide +kernel
theorem dL_law_733 : decode cL_law 733 = .ok (.iaload, 1) := by decide +kernel
theorem dL_law_734 : decode cL_law 734 = .ok (.invokevirtual 65, 3) := by decide +kernel
theorem dL_law_737 : decode cL_law 737 = .ok (.if_icmp .eq 1637, 3) := by decide +kernel
theorem dL_law_740 : decode cL_law 740 = .ok (.iconst 0, 1) := by decide +kernel
theorem dL_law_741 : decode cL_law 741 = .ok (.ireturn, 1) := by decide +kernel
theorem dL_law_742 : decode cL_law 742 = .ok (.aload_n 1, 1) := by decide +kernel
theorem dL_law_743 : decode cL_law 743 = .ok (.aload_n 0, 1) := by decide +kernel
theorem dL_law_744 : decode cL_law 744 = .ok (.iload 4, 2) := by decide +kernel
theorem dL_law_746 : decode cL_law 746 = .ok (.iconst 1, 1) := by decide +kernel
theorem dL_law_747 : decode cL_law 747 = .ok (.iadd, 1) := by decide +kernel
theorem dL_law_748 : decode cL_law 748 = .ok (.iaload, 1) := by decide +kernel
theorem dL_law_749 : decode cL_law 749 = .ok (.aload_n 0, 1) := by decide +kernel
theorem dL_law_750 : decode cL_law 750 = .ok (.iload 4, 2) := by decide +kernel
theorem dL_law_752 : decode cL_law 752 = .ok (.iconst 2, 1) := by decide +kernel
theorem dL_law_753 : decode cL_law 753 = .ok (.iadd, 1) := by decide +kernel
theorem dL_law_754 : decode cL_law 754 = .ok (.iaload, 1) := by decide +kernel
theorem dL_law_755 : decode cL_law 755 = .ok (.aload_n 0, 1) := by decide +kernel
theorem dL_law_756 : decode cL_law 756 = .ok (.iload 4, 2) := by decide +kernel
theorem dL_law_758 : decode cL_law 758 = .ok (.iconst 3, 1) := by decide +kernel
theorem dL_law_759 : decode cL_law 759 = .ok (.iadd, 1) := by decide +kernel
theorem dL_law_760 : decode cL_law 760 = .ok (.iaload, 1) := by decide +kernel
theorem dL_law_761 : decode cL_law 761 = .ok (.aload_n 0, 1) := by decide +kernel
theorem dL_law_762 : decode cL_law 762 = .ok (.iload 4, 2) := by decide +kernel
theorem dL_law_764 : decode cL_law 764 = .ok (.iconst 4, 1) := by decide +kernel
theorem dL_law_765 : decode cL_law 765 = .ok (.iadd, 1) := by decide +kernel
theorem dL_law_766 : decode cL_law 766 = .ok (.iaload, 1) := by decide +kernel
theorem dL_law_767 : decode cL_law 767 = .ok (.aload_n 0, 1) := by decide +kernel
theorem dL_law_768 : decode cL_law 768 = .ok (.iload 4, 2) := by decide +kernel
theorem dL_law_770 : decode cL_law 770 = .ok (.iconst 5, 1) := by decide +kernel
theorem dL_law_771 : decode cL_law 771 = .ok (.iadd, 1) := by decide +kernel
theorem dL_law_772 : decode cL_law 772 = .ok (.iaload, 1) := by decide +kernel
theorem dL_law_773 : decode cL_law 773 = .ok (.aload_n 0, 1) := by decide +kernel
theorem dL_law_774 : decode cL_law 774 = .ok (.iload 4, 2) := by decide +kernel
theorem dL_law_776 : decode cL_law 776 = .ok (.bipush 6, 2) := by decide +kernel
theorem dL_law_778 : decode cL_law 778 = .ok (.iadd, 1) := by decide +kernel
theorem dL_law_779 : decode cL_law 779 = .ok (.iaload, 1) := by decide +kernel
theorem dL_law_780 : decode cL_law 780 = .ok (.invokevirtual 66, 3) := by decide +kernel
theorem dL_law_783 : decode cL_law 783 = .ok (.aload_n 2, 1) := by decide +kernel
theorem dL_law_784 : decode cL_law 784 = .ok (.aload_n 0, 1) := by decide +kernel
theorem dL_law_785 : decode cL_law 785 = .ok (.iload 4, 2) := by decide +kernel
theorem dL_law_787 : decode cL_law 787 = .ok (.iconst 1, 1) := by decide +kernel
theorem dL_law_788 : decode cL_law 788 = .ok (.iadd, 1) := by decide +kernel
theorem dL_law_789 : decode cL_law 789 = .ok (.iaload, 1) := by decide +kernel
theorem dL_law_790 : decode cL_law 790 = .ok (.aload_n 0, 1) := by decide +kernel
theorem dL_law_791 : decode cL_law 791 = .ok (.iload 4, 2) := by decide +kernel
theorem dL_law_793 : decode cL_law 793 = .ok (.iconst 2, 1) := by decide +kernel
theorem dL_law_794 : decode cL_law 794 = .ok (.iadd, 1) := by decide +kernel
theorem dL_law_795 : decode cL_law 795 = .ok (.iaload, 1) := by decide +kernel
theorem dL_law_796 : decode cL_law 796 = .ok (.aload_n 0, 1) := by decide +kernel
theorem dL_law_797 : decode cL_law 797 = .ok (.iload 4, 2) := by decide +kernel
theorem dL_law_799 : decode cL_law 799 = .ok (.iconst 3, 1) := by decide +kernel
theorem dL_law_800 : decode cL_law 800 = .ok (.iadd, 1) := by decide +kernel
theorem dL_law_801 : decode cL_law 801 = .ok (.iaload, 1) := by decide +kernel
theorem dL_law_802 : decode cL_law 802 = .ok (.aload_n 0, 1) := by decide +kernel
theorem dL_law_803 : decode cL_law 803 = .ok (.iload 4, 2) := by decide +kernel
theorem dL_law_805 : decode cL_law 805 = .ok (.iconst 4, 1) := by decide +kernel
theorem dL_law_806 : decode cL_law 806 = .ok (.iadd, 1) := by decide +kernel
theorem dL_law_807 : decode cL_law 807 = .ok (.iaload, 1) := by decide +kernel
theorem dL_law_808 : decode cL_law 808 = .ok (.aload_n 0, 1) := by decide +kernel
theorem dL_law_809 : decode cL_law 809 = .ok (.iload 4, 2) := by decide +kernel
theorem dL_law_811 : decode cL_law 811 = .ok (.iconst 5, 1) := by decide +kernel
theorem dL_law_812 : decode cL_law 812 = .ok (.iadd, 1) := by decide +kernel
theorem dL_law_813 : decode cL_law 813 = .ok (.iaload, 1) := by decide +kernel
theorem dL_law_814 : decode cL_law 814 = .ok (.aload_n 0, 1) := by decide +kernel
theorem dL_law_815 : decode cL_law 815 = .ok (.iload 4, 2) := by decide +kernel
theorem dL_law_817 : decode cL_law 817 = .ok (.bipush 6, 2) := by decide +kernel
theorem dL_law_819 : decode cL_law 819 = .ok (.iadd, 1) := by decide +kernel
theorem dL_law_820 : decode cL_law 820 = .ok (.iaload, 1) := by decide +kernel
theorem dL_law_821 : decode cL_law 821 = .ok (.invokevirtual 69, 3) := by decide +kernel
theorem dL_law_824 : decode cL_law 824 = .ok (.if_icmp .eq 1550, 3) := by decide +kernel
theorem dL_law_827 : decode cL_law 827 = .ok (.iconst 0, 1) := by decide +kernel
theorem dL_law_828 : decode cL_law 828 = .ok (.ireturn, 1) := by decide +kernel
theorem dL_law_829 : decode cL_law 829 = .ok (.aload_n 1, 1) := by decide +kernel
theorem dL_law_830 : decode cL_law 830 = .ok (.aload_n 0, 1) := by decide +kernel
theorem dL_law_831 : decode cL_law 831 = .ok (.iload 4, 2) := by decide +kernel
theorem dL_law_833 : decode cL_law 833 = .ok (.iconst 1, 1) := by decide +kernel
theorem dL_law_834 : decode cL_law 834 = .ok (.iadd, 1) := by decide +kernel
theorem dL_law_835 : decode cL_law 835 = .ok (.iaload, 1) := by decide +kernel
theorem dL_law_836 : decode cL_law 836 = .ok (.aload_n 0, 1) := by decide +kernel
theorem dL_law_837 : decode cL_law 837 = .ok (.iload 4, 2) := by decide +kernel
theorem dL_law_839 : decode cL_law 839 = .ok (.iconst 2, 1) := by decide +kernel
theorem dL_law_840 : decode cL_law 840 = .ok (.iadd, 1) := by decide +kernel
theorem dL_law_841 : decode cL_law 841 = .ok (.iaload, 1) := by decide +kernel
theorem dL_law_842 : decode cL_law 842 = .ok (.aload_n 0, 1) := by decide +kernel
theorem dL_law_843 : decode cL_law 843 = .ok (.iload 4, 2) := by decide +kernel
theorem dL_law_845 : decode cL_law 845 = .ok (.iconst 3, 1) := by decide +kernel
theorem dL_law_846 : decode cL_law 846 = .ok (.iadd, 1) := by decide +kernel
theorem dL_law_847 : decode cL_law 847 = .ok (.iaload, 1) := by decide +kernel
theorem dL_law_848 : decode cL_law 848 = .ok (.aload_n 0, 1) := by decide +kernel
theorem dL_law_849 : decode cL_law 849 = .ok (.iload 4, 2) := by decide +kernel
theorem dL_law_851 : decode cL_law 851 = .ok (.iconst 4, 1) := by decide +kernel
theorem dL_law_852 : decode cL_law 852 = .ok (.iadd, 1) := by decide +kernel
theorem dL_law_853 : decode cL_law 853 = .ok (.iaload, 1) := by decide +kernel
theorem dL_law_854 : decode cL_law 854 = .ok (.aload_n 0, 1) := by decide +kernel
theorem dL_law_855 : decode cL_law 855 = .ok (.iload 4, 2) := by decide +kernel
theorem dL_law_857 : decode cL_law 857 = .ok (.iconst 5, 1) := by decide +kernel
theorem dL_law_858 : decode cL_law 858 = .ok (.iadd, 1) := by decide +kernel
theorem dL_law_859 : decode cL_law 859 = .ok (.iaload, 1) := by decide +kernel
theorem dL_law_860 : decode cL_law 860 = .ok (.aload_n 0, 1) := by decide +kernel
theorem dL_law_861 : decode cL_law 861 = .ok (.iload 4, 2) := by decide +kernel
theorem dL_law_863 : decode cL_law 863 = .ok (.bipush 6, 2) := by decide +kernel
theorem dL_law_865 : decode cL_law 865 = .ok (.iadd, 1) := by decide +kernel
theorem dL_law_866 : decode cL_law 866 = .ok (.iaload, 1) := by decide +kernel
theorem dL_law_867 : decode cL_law 867 = .ok (.aload_n 0, 1) := by decide +kernel
theorem dL_law_868 : decode cL_law 868 = .ok (.iload 4, 2) := by decide +kernel
theorem dL_law_870 : decode cL_law 870 = .ok (.bipush 7, 2) := by decide +kernel
theorem dL_law_872 : decode cL_law 872 = .ok (.iadd, 1) := by decide +kernel
theorem dL_law_873 : decode cL_law 873 = .ok (.iaload, 1) := by decide +kernel
theorem dL_law_874 : decode cL_law 874 = .ok (.aload_n 0, 1) := by decide +kernel
theorem dL_law_875 : decode cL_law 875 = .ok (.iload 4, 2) := by decide +kernel
theorem dL_law_877 : decode cL_law 877 = .ok (.bipush 8, 2) := by decide +kernel
theorem dL_law_879 : decode cL_law 879 = .ok (.iadd, 1) := by decide +kernel
theorem dL_law_880 : decode cL_law 880 = .ok (.iaload, 1) := by decide +kernel
theorem dL_law_881 : decode cL_law 881 = .ok (.invokevirtual 70, 3) := by decide +kernel
theorem dL_law_884 : decode cL_law 884 = .ok (.aload_n 2, 1) := by decide +kernel
theorem dL_law_885 : decode cL_law 885 = .ok (.aload_n 0, 1) := by decide +kernel
theorem dL_law_886 : decode cL_law 886 = .ok (.iload 4, 2) := by decide +kernel
theorem dL_law_888 : decode cL_law 888 = .ok (.iconst 1, 1) := by decide +kernel
theorem dL_law_889 : decode cL_law 889 = .ok (.iadd, 1) := by decide +kernel
theorem dL_law_890 : decode cL_law 890 = .ok (.iaload, 1) := by decide +kernel
theorem dL_law_891 : decode cL_law 891 = .ok (.aload_n 0, 1) := by decide +kernel
theorem dL_law_892 : decode cL_law 892 = .ok (.iload 4, 2) := by decide +kernel
theorem dL_law_894 : decode cL_law 894 = .ok (.iconst 2, 1) := by decide +kernel
theorem dL_law_895 : decode cL_law 895 = .ok (.iadd, 1) := by decide +kernel
theorem dL_law_896 : decode cL_law 896 = .ok (.iaload, 1) := by decide +kernel
theorem dL_law_897 : decode cL_law 897 = .ok (.aload_n 0, 1) := by decide +kernel
section
variable {X : ab_X} {f cl sl : Nat} {σ : ab_S} {Q : Option ab_V → ab_S → Prop} {L st : List ab_V} {a b z v i j n x1 x2 x3 x4 x5 x6 x7 x8 : Int} {l0 l1 l2 l3 l4 l5 l6 : ab_V}
theorem rL_law_554 : ab_Run X 288 554 (f, cl, sl) [l0, l1, l2, l3, ab_I z, l5, l6] st σ Q ↔ ab_Run X 288 556 (f, cl, sl) [l0, l1, l2, l3, ab_I z, l5, l6] (ab_I z :: st) σ Q := ab_r_iload rfl kc_L_law dL_law_554
theorem rL_law_556 : ab_Run X 288 556 (f, cl, sl) L st σ Q ↔ ab_Run X 288 557 (f, cl, sl) L (ab_I 3 :: st) σ Q := ab_r_iconst (by decide) kc_L_law dL_law_556
theorem rL_law_557 : ab_Run X 288 557 (f, cl, sl) L (ab_I b :: ab_I a :: st) σ Q ↔ ab_Run X 288 558 (f, cl, sl) L (ab_I (ab_w32 (a + b)) :: st) σ Q := ab_r_iadd kc_L_law dL_law_557
theorem rL_law_558 : ab_Run X 288 558 (f, cl, sl) L (ab_I i :: ab_R a :: st) σ Q ↔ (a = -1 ∧ 0 ≤ i ∧ i < X.1) ∧ ab_Run X 288 559 (f, cl, sl) L (ab_I (X.2 i) :: st) σ Q := ab_r_ialoadX rfl kc_L_law dL_law_558
theorem rL_law_559 : ab_Run X 288 559 (f, cl, sl) [ab_R z, l1, l2, l3, l4, l5, l6] st σ Q ↔ z ≠ 0 ∧ ab_Run X 288 560 (f, cl, sl) [ab_R z, l1, l2, l3, l4, l5, l6] (ab_R z :: st) σ Q := ab_r_aload_n rfl kc_L_law dL_law_559
theorem rL_law_560 : ab_Run X 288 560 (f, cl, sl) [l0, l1, l2, l3, ab_I z, l5, l6] st σ Q ↔ ab_Run X 288 562 (f, cl, sl) [l0, l1, l2, l3, ab_I z, l5, l6] (ab_I z :: st) σ Q := ab_r_iload rfl kc_L_law dL_law_560
theorem rL_law_562 : ab_Run X 288 562 (f, cl, sl) L st σ Q ↔ ab_Run X 288 563 (f, cl, sl) L (ab_I 4 :: st) σ Q := ab_r_iconst (by decide) kc_L_law dL_law_562
theorem rL_law_563 : ab_Run X 288 563 (f, cl, sl) L (ab_I b :: ab_I a :: st) σ Q ↔ ab_Run X 288 564 (f, cl, sl) L (ab_I (ab_w32 (a + b)) :: st) σ Q := ab_r_iadd kc_L_law dL_law_563
theorem rL_law_564 : ab_Run X 288 564 (f, cl, sl) L (ab_I i :: ab_R a :: st) σ Q ↔ (a = -1 ∧ 0 ≤ i ∧ i < X.1) ∧ ab_Run X 288 565 (f, cl, sl) L (ab_I (X.2 i) :: st) σ Q := ab_r_ialoadX rfl kc_L_law dL_law_564
theorem rL_law_565 : ab_Run X 288 565 (f, cl, sl) [ab_R z, l1, l2, l3, l4, l5, l6] st σ Q ↔ z ≠ 0 ∧ ab_Run X 288 566 (f, cl, sl) [ab_R z, l1, l2, l3, l4, l5, l6] (ab_R z :: st) σ Q := ab_r_aload_n rfl kc_L_law dL_law_565
theorem rL_law_566 : ab_Run X 288 566 (f, cl, sl) [l0, l1, l2, l3, ab_I z, l5, l6] st σ Q ↔ ab_Run X 288 568 (f, cl, sl) [l0, l1, l2, l3, ab_I z, l5, l6] (ab_I z :: st) σ Q := ab_r_iload rfl kc_L_law dL_law_566
theorem rL_law_568 : ab_Run X 288 568 (f, cl, sl) L st σ Q ↔ ab_Run X 288 569 (f, cl, sl) L (ab_I 5 :: st) σ Q := ab_r_iconst (by decide) kc_L_law dL_law_568
theorem rL_law_569 : ab_Run X 288 569 (f, cl, sl) L (ab_I b :: ab_I a :: st) σ Q ↔ ab_Run X 288 570 (f, cl, sl) L (ab_I (ab_w32 (a + b)) :: st) σ Q := ab_r_iadd kc_L_law dL_law_569
theorem rL_law_570 : ab_Run X 288 570 (f, cl, sl) L (ab_I i :: ab_R a :: st) σ Q ↔ (a = -1 ∧ 0 ≤ i ∧ i < X.1) ∧ ab_Run X 288 571 (f, cl, sl) L (ab_I (X.2 i) :: st) σ Q := ab_r_ialoadX rfl kc_L_law dL_law_570
theorem rL_law_571 : ab_Run X 288 571 (f, cl, sl) [ab_R z, l1, l2, l3, l4, l5, l6] st σ Q ↔ z ≠ 0 ∧ ab_Run X 288 572 (f, cl, sl) [ab_R z, l1, l2, l3, l4, l5, l6] (ab_R z :: st) σ Q := ab_r_aload_n rfl kc_L_law dL_law_571
theorem rL_law_572 : ab_Run X 288 572 (f, cl, sl) [l0, l1, l2, l3, ab_I z, l5, l6] st σ Q ↔ ab_Run X 288 574 (f, cl, sl) [l0, l1, l2, l3, ab_I z, l5, l6] (ab_I z :: st) σ Q := ab_r_iload rfl kc_L_law dL_law_572
theorem rL_law_574 : ab_Run X 288 574 (f, cl, sl) L st σ Q ↔ ab_Run X 288 576 (f, cl, sl) L (ab_I 6 :: st) σ Q := ab_r_bipush (by decide) kc_L_law dL_law_574
theorem rL_law_576 : ab_Run X 288 576 (f, cl, sl) L (ab_I b :: ab_I a :: st) σ Q ↔ ab_Run X 288 577 (f, cl, sl) L (ab_I (ab_w32 (a + b)) :: st) σ Q := ab_r_iadd kc_L_law dL_law_576
theorem rL_law_577 : ab_Run X 288 577 (f, cl, sl) L (ab_I i :: ab_R a :: st) σ Q ↔ (a = -1 ∧ 0 ≤ i ∧ i < X.1) ∧ ab_Run X 288 578 (f, cl, sl) L (ab_I (X.2 i) :: st) σ Q := ab_r_ialoadX rfl kc_L_law dL_law_577
theorem rL_law_578 : ab_Run X 288 578 (f, cl, sl) [ab_R z, l1, l2, l3, l4, l5, l6] st σ Q ↔ z ≠ 0 ∧ ab_Run X 288 579 (f, cl, sl) [ab_R z, l1, l2, l3, l4, l5, l6] (ab_R z :: st) σ Q := ab_r_aload_n rfl kc_L_law dL_law_578
theorem rL_law_579 : ab_Run X 288 579 (f, cl, sl) [l0, l1, l2, l3, ab_I z, l5, l6] st σ Q ↔ ab_Run X 288 581 (f, cl, sl) [l0, l1, l2, l3, ab_I z, l5, l6] (ab_I z :: st) σ Q := ab_r_iload rfl kc_L_law dL_law_579
theorem rL_law_581 : ab_Run X 288 581 (f, cl, sl) L st σ Q ↔ ab_Run X 288 583 (f, cl, sl) L (ab_I 7 :: st) σ Q := ab_r_bipush (by decide) kc_L_law dL_law_581
theorem rL_law_583 : ab_Run X 288 583 (f, cl, sl) L (ab_I b :: ab_I a :: st) σ Q ↔ ab_Run X 288 584 (f, cl, sl) L (ab_I (ab_w32 (a + b)) :: st) σ Q := ab_r_iadd kc_L_law dL_law_583
theorem rL_law_584 : ab_Run X 288 584 (f, cl, sl) L (ab_I i :: ab_R a :: st) σ Q ↔ (a = -1 ∧ 0 ≤ i ∧ i < X.1) ∧ ab_Run X 288 585 (f, cl, sl) L (ab_I (X.2 i) :: st) σ Q := ab_r_ialoadX rfl kc_L_law dL_law_584
theorem rL_law_585 : ab_Run X 288 585 (f, cl, sl) [ab_R z, l1, l2, l3, l4, l5, l6] st σ Q ↔ z ≠ 0 ∧ ab_Run X 288 586 (f, cl, sl) [ab_R z, l1, l2, l3, l4, l5, l6] (ab_R z :: st) σ Q := ab_r_aload_n rfl kc_L_law dL_law_585
theorem rL_law_586 : ab_Run X 288 586 (f, cl, sl) [l0, l1, l2, l3, ab_I z, l5, l6] st σ Q ↔ ab_Run X 288 588 (f, cl, sl) [l0, l1, l2, l3, ab_I z, l5, l6] (ab_I z :: st) σ Q := ab_r_iload rfl kc_L_law dL_law_586
theorem rL_law_588 : ab_Run X 288 588 (f, cl, sl) L st σ Q ↔ ab_Run X 288 590 (f, cl, sl) L (ab_I 8 :: st) σ Q := ab_r_bipush (by decide) kc_L_law dL_law_588
theorem rL_law_590 : ab_Run X 288 590 (f, cl, sl) L (ab_I b :: ab_I a :: st) σ Q ↔ ab_Run X 288 591 (f, cl, sl) L (ab_I (ab_w32 (a + b)) :: st) σ Q := ab_r_iadd kc_L_law dL_law_590
theorem rL_law_591 : ab_Run X 288 591 (f, cl, sl) L (ab_I i :: ab_R a :: st) σ Q ↔ (a = -1 ∧ 0 ≤ i ∧ i < X.1) ∧ ab_Run X 288 592 (f, cl, sl) L (ab_I (X.2 i) :: st) σ Q := ab_r_ialoadX rfl kc_L_law dL_law_591
theorem rL_law_592 (h : 4 + 1 ≤ f ∧ 0 ≤ cl ∧ 0 ≤ sl) : ab_Run X 288 592 (f, cl, sl) L (ab_I x8 :: ab_I x7 :: ab_I x6 :: ab_I x5 :: ab_I x4 :: ab_I x3 :: ab_I x2 :: ab_I x1 :: ab_R a :: st) σ Q ↔ ((ab_sh σ a).1 = 12 ∧ ab_cats st ≤ 8) ∧ ab_Do X 88 [ab_R a, ab_I x1, ab_I x2, ab_I x3, ab_I x4, ab_I x5, ab_I x6, ab_I x7, ab_I x8] σ (fun r σ' => ab_Run X 288 595 (f, cl, sl) L (ab_psh r st) σ' Q) := ab_r_callV (w := [ab_I x8, ab_I x7, ab_I x6, ab_I x5, ab_I x4, ab_I x3, ab_I x2, ab_I x1]) (as := [ab_I x1, ab_I x2, ab_I x3, ab_I x4, ab_I x5, ab_I x6, ab_I x7, ab_I x8]) (b1 := (4, 0, 0)) 0 (Or.inl rfl) (by decide) ko_L_law qM_14_56 (by decide) rfl rfl rfl rfl rfl h (Nat.le_of_ble_eq_true rfl) kc_L_law dL_law_592
theorem rL_law_595 : ab_Run X 288 595 (f, cl, sl) [l0, l1, ab_R z, l3, l4, l5, l6] st σ Q ↔ z ≠ 0 ∧ ab_Run X 288 596 (f, cl, sl) [l0, l1, ab_R z, l3, l4, l5, l6] (ab_R z :: st) σ Q := ab_r_aload_n rfl kc_L_law dL_law_595
theorem rL_law_596 : ab_Run X 288 596 (f, cl, sl) [ab_R z, l1, l2, l3, l4, l5, l6] st σ Q ↔ z ≠ 0 ∧ ab_Run X 288 597 (f, cl, sl) [ab_R z, l1, l2, l3, l4, l5, l6] (ab_R z :: st) σ Q := ab_r_aload_n rfl kc_L_law dL_law_596
theorem rL_law_597 : ab_Run X 288 597 (f, cl, sl) [l0, l1, l2, l3, ab_I z, l5, l6] st σ Q ↔ ab_Run X 288 599 (f, cl, sl) [l0, l1, l2, l3, ab_I z, l5, l6] (ab_I z :: st) σ Q := ab_r_iload rfl kc_L_law dL_law_597
theorem rL_law_599 : ab_Run X 288 599 (f, cl, sl) L st σ Q ↔ ab_Run X 288 600 (f, cl, sl) L (ab_I 1 :: st) σ Q := ab_r_iconst (by decide) kc_L_law dL_law_599
theorem rL_law_600 : ab_Run X 288 600 (f, cl, sl) L (ab_I b :: ab_I a :: st) σ Q ↔ ab_Run X 288 601 (f, cl, sl) L (ab_I (ab_w32 (a + b)) :: st) σ Q := ab_r_iadd kc_L_law dL_law_600
theorem rL_law_601 : ab_Run X 288 601 (f, cl, sl) L (ab_I i :: ab_R a :: st) σ Q ↔ (a = -1 ∧ 0 ≤ i ∧ i < X.1) ∧ ab_Run X 288 602 (f, cl, sl) L (ab_I (X.2 i) :: st) σ Q := ab_r_ialoadX rfl kc_L_law dL_law_601
theorem rL_law_602 : ab_Run X 288 602 (f, cl, sl) [ab_R z, l1, l2, l3, l4, l5, l6] st σ Q ↔ z ≠ 0 ∧ ab_Run X 288 603 (f, cl, sl) [ab_R z, l1, l2, l3, l4, l5, l6] (ab_R z :: st) σ Q := ab_r_aload_n rfl kc_L_law dL_law_602
theorem rL_law_603 : ab_Run X 288 603 (f, cl, sl) [l0, l1, l2, l3, ab_I z, l5, l6] st σ Q ↔ ab_Run X 288 605 (f, cl, sl) [l0, l1, l2, l3, ab_I z, l5, l6] (ab_I z :: st) σ Q := ab_r_iload rfl kc_L_law dL_law_603
theorem rL_law_605 : ab_Run X 288 605 (f, cl, sl) L st σ Q ↔ ab_Run X 288 606 (f, cl, sl) L (ab_I 2 :: st) σ Q := ab_r_iconst (by decide) kc_L_law dL_law_605
theorem rL_law_606 : ab_Run X 288 606 (f, cl, sl) L (ab_I b :: ab_I a :: st) σ Q ↔ ab_Run X 288 607 (f, cl, sl) L (ab_I (ab_w32 (a + b)) :: st) σ Q := ab_r_iadd kc_L_law dL_law_606
theorem rL_law_607 : ab_Run X 288 607 (f, cl, sl) L (ab_I i :: ab_R a :: st) σ Q ↔ (a = -1 ∧ 0 ≤ i ∧ i < X.1) ∧ ab_Run X 288 608 (f, cl, sl) L (ab_I (X.2 i) :: st) σ Q := ab_r_ialoadX rfl kc_L_law dL_law_607
theorem rL_law_608 : ab_Run X 288 608 (f, cl, sl) [ab_R z, l1, l2, l3, l4, l5, l6] st σ Q ↔ z ≠ 0 ∧ ab_Run X 288 609 (f, cl, sl) [ab_R z, l1, l2, l3, l4, l5, l6] (ab_R z :: st) σ Q := ab_r_aload_n rfl kc_L_law dL_law_608
theorem rL_law_609 : ab_Run X 288 609 (f, cl, sl) [l0, l1, l2, l3, ab_I z, l5, l6] st σ Q ↔ ab_Run X 288 611 (f, cl, sl) [l0, l1, l2, l3, ab_I z, l5, l6] (ab_I z :: st) σ Q := ab_r_iload rfl kc_L_law dL_law_609
theorem rL_law_611 : ab_Run X 288 611 (f, cl, sl) L st σ Q ↔ ab_Run X 288 612 (f, cl, sl) L (ab_I 3 :: st) σ Q := ab_r_iconst (by decide) kc_L_law dL_law_611
theorem rL_law_612 : ab_Run X 288 612 (f, cl, sl) L (ab_I b :: ab_I a :: st) σ Q ↔ ab_Run X 288 613 (f, cl, sl) L (ab_I (ab_w32 (a + b)) :: st) σ Q := ab_r_iadd kc_L_law dL_law_612
theorem rL_law_613 : ab_Run X 288 613 (f, cl, sl) L (ab_I i :: ab_R a :: st) σ Q ↔ (a = -1 ∧ 0 ≤ i ∧ i < X.1) ∧ ab_Run X 288 614 (f, cl, sl) L (ab_I (X.2 i) :: st) σ Q := ab_r_ialoadX rfl kc_L_law dL_law_613
theorem rL_law_614 : ab_Run X 288 614 (f, cl, sl) [ab_R z, l1, l2, l3, l4, l5, l6] st σ Q ↔ z ≠ 0 ∧ ab_Run X 288 615 (f, cl, sl) [ab_R z, l1, l2, l3, l4, l5, l6] (ab_R z :: st) σ Q := ab_r_aload_n rfl kc_L_law dL_law_614
theorem rL_law_615 : ab_Run X 288 615 (f, cl, sl) [l0, l1, l2, l3, ab_I z, l5, l6] st σ Q ↔ ab_Run X 288 617 (f, cl, sl) [l0, l1, l2, l3, ab_I z, l5, l6] (ab_I z :: st) σ Q := ab_r_iload rfl kc_L_law dL_law_615
theorem rL_law_617 : ab_Run X 288 617 (f, cl, sl) L st σ Q ↔ ab_Run X 288 618 (f, cl, sl) L (ab_I 4 :: st) σ Q := ab_r_iconst (by decide) kc_L_law dL_law_617
theorem rL_law_618 : ab_Run X 288 618 (f, cl, sl) L (ab_I b :: ab_I a :: st) σ Q ↔ ab_Run X 288 619 (f, cl, sl) L (ab_I (ab_w32 (a + b)) :: st) σ Q := ab_r_iadd kc_L_law dL_law_618
theorem rL_law_619 : ab_Run X 288 619 (f, cl, sl) L (ab_I i :: ab_R a :: st) σ Q ↔ (a = -1 ∧ 0 ≤ i ∧ i < X.1) ∧ ab_Run X 288 620 (f, cl, sl) L (ab_I (X.2 i) :: st) σ Q := ab_r_ialoadX rfl kc_L_law dL_law_619
theorem rL_law_620 : ab_Run X 288 620 (f, cl, sl) [ab_R z, l1, l2, l3, l4, l5, l6] st σ Q ↔ z ≠ 0 ∧ ab_Run X 288 621 (f, cl, sl) [ab_R z, l1, l2, l3, l4, l5, l6] (ab_R z :: st) σ Q := ab_r_aload_n rfl kc_L_law dL_law_620
theorem rL_law_621 : ab_Run X 288 621 (f, cl, sl) [l0, l1, l2, l3, ab_I z, l5, l6] st σ Q ↔ ab_Run X 288 623 (f, cl, sl) [l0, l1, l2, l3, ab_I z, l5, l6] (ab_I z :: st) σ Q := ab_r_iload rfl kc_L_law dL_law_621
theorem rL_law_623 : ab_Run X 288 623 (f, cl, sl) L st σ Q ↔ ab_Run X 288 624 (f, cl, sl) L (ab_I 5 :: st) σ Q := ab_r_iconst (by decide) kc_L_law dL_law_623
theorem rL_law_624 : ab_Run X 288 624 (f, cl, sl) L (ab_I b :: ab_I a :: st) σ Q ↔ ab_Run X 288 625 (f, cl, sl) L (ab_I (ab_w32 (a + b)) :: st) σ Q := ab_r_iadd kc_L_law dL_law_624
theorem rL_law_625 : ab_Run X 288 625 (f, cl, sl) L (ab_I i :: ab_R a :: st) σ Q ↔ (a = -1 ∧ 0 ≤ i ∧ i < X.1) ∧ ab_Run X 288 626 (f, cl, sl) L (ab_I (X.2 i) :: st) σ Q := ab_r_ialoadX rfl kc_L_law dL_law_625
theorem rL_law_626 : ab_Run X 288 626 (f, cl, sl) [ab_R z, l1, l2, l3, l4, l5, l6] st σ Q ↔ z ≠ 0 ∧ ab_Run X 288 627 (f, cl, sl) [ab_R z, l1, l2, l3, l4, l5, l6] (ab_R z :: st) σ Q := ab_r_aload_n rfl kc_L_law dL_law_626
theorem rL_law_627 : ab_Run X 288 627 (f, cl, sl) [l0, l1, l2, l3, ab_I z, l5, l6] st σ Q ↔ ab_Run X 288 629 (f, cl, sl) [l0, l1, l2, l3, ab_I z, l5, l6] (ab_I z :: st) σ Q := ab_r_iload rfl kc_L_law dL_law_627
theorem rL_law_629 : ab_Run X 288 629 (f, cl, sl) L st σ Q ↔ ab_Run X 288 631 (f, cl, sl) L (ab_I 6 :: st) σ Q := ab_r_bipush (by decide) kc_L_law dL_law_629
theorem rL_law_631 : ab_Run X 288 631 (f, cl, sl) L (ab_I b :: ab_I a :: st) σ Q ↔ ab_Run X 288 632 (f, cl, sl) L (ab_I (ab_w32 (a + b)) :: st) σ Q := ab_r_iadd kc_L_law dL_law_631
theorem rL_law_632 : ab_Run X 288 632 (f, cl, sl) L (ab_I i :: ab_R a :: st) σ Q ↔ (a = -1 ∧ 0 ≤ i ∧ i < X.1) ∧ ab_Run X 288 633 (f, cl, sl) L (ab_I (X.2 i) :: st) σ Q := ab_r_ialoadX rfl kc_L_law dL_law_632
theorem rL_law_633 : ab_Run X 288 633 (f, cl, sl) [ab_R z, l1, l2, l3, l4, l5, l6] st σ Q ↔ z ≠ 0 ∧ ab_Run X 288 634 (f, cl, sl) [ab_R z, l1, l2, l3, l4, l5, l6] (ab_R z :: st) σ Q := ab_r_aload_n rfl kc_L_law dL_law_633
theorem rL_law_634 : ab_Run X 288 634 (f, cl, sl) [l0, l1, l2, l3, ab_I z, l5, l6] st σ Q ↔ ab_Run X 288 636 (f, cl, sl) [l0, l1, l2, l3, ab_I z, l5, l6] (ab_I z :: st) σ Q := ab_r_iload rfl kc_L_law dL_law_634
theorem rL_law_636 : ab_Run X 288 636 (f, cl, sl) L st σ Q ↔ ab_Run X 288 638 (f, cl, sl) L (ab_I 7 :: st) σ Q := ab_r_bipush (by decide) kc_L_law dL_law_636
theorem rL_law_638 : ab_Run X 288 638 (f, cl, sl) L (ab_I b :: ab_I a :: st) σ Q ↔ ab_Run X 288 639 (f, cl, sl) L (ab_I (ab_w32 (a + b)) :: st) σ Q := ab_r_iadd kc_L_law dL_law_638
theorem rL_law_639 : ab_Run X 288 639 (f, cl, sl) L (ab_I i :: ab_R a :: st) σ Q ↔ (a = -1 ∧ 0 ≤ i ∧ i < X.1) ∧ ab_Run X 288 640 (f, cl, sl) L (ab_I (X.2 i) :: st) σ Q := ab_r_ialoadX rfl kc_L_law dL_law_639
theorem rL_law_640 : ab_Run X 288 640 (f, cl, sl) [ab_R z, l1, l2, l3, l4, l5, l6] st σ Q ↔ z ≠ 0 ∧ ab_Run X 288 641 (f, cl, sl) [ab_R z, l1, l2, l3, l4, l5, l6] (ab_R z :: st) σ Q := ab_r_aload_n rfl kc_L_law dL_law_640
theorem rL_law_641 : ab_Run X 288 641 (f, cl, sl) [l0, l1, l2, l3, ab_I z, l5, l6] st σ Q ↔ ab_Run X 288 643 (f, cl, sl) [l0, l1, l2, l3, ab_I z, l5, l6] (ab_I z :: st) σ Q := ab_r_iload rfl kc_L_law dL_law_641
theorem rL_law_643 : ab_Run X 288 643 (f, cl, sl) L st σ Q ↔ ab_Run X 288 645 (f, cl, sl) L (ab_I 8 :: st) σ Q := ab_r_bipush (by decide) kc_L_law dL_law_643
theorem rL_law_645 : ab_Run X 288 645 (f, cl, sl) L (ab_I b :: ab_I a :: st) σ Q ↔ ab_Run X 288 646 (f, cl, sl) L (ab_I (ab_w32 (a + b)) :: st) σ Q := ab_r_iadd kc_L_law dL_law_645
theorem rL_law_646 : ab_Run X 288 646 (f, cl, sl) L (ab_I i :: ab_R a :: st) σ Q ↔ (a = -1 ∧ 0 ≤ i ∧ i < X.1) ∧ ab_Run X 288 647 (f, cl, sl) L (ab_I (X.2 i) :: st) σ Q := ab_r_ialoadX rfl kc_L_law dL_law_646
theorem rL_law_647 (h : 2 + 1 ≤ f ∧ 0 ≤ cl ∧ 0 ≤ sl) : ab_Run X 288 647 (f, cl, sl) L (ab_I x8 :: ab_I x7 :: ab_I x6 :: ab_I x5 :: ab_I x4 :: ab_I x3 :: ab_I x2 :: ab_I x1 :: ab_R a :: st) σ Q ↔ ((ab_sh σ a).1 = 14 ∧ ab_cats st ≤ 8) ∧ ab_Do X 223 [ab_R a, ab_I x1, ab_I x2, ab_I x3, ab_I x4, ab_I x5, ab_I x6, ab_I x7, ab_I x8] σ (fun r σ' => ab_Run X 288 650 (f, cl, sl) L (ab_psh r st) σ' Q) := ab_r_callV (w := [ab_I x8, ab_I x7, ab_I x6, ab_I x5, ab_I x4, ab_I x3, ab_I x2, ab_I x1]) (as := [ab_I x1, ab_I x2, ab_I x3, ab_I x4, ab_I x5, ab_I x6, ab_I x7, ab_I x8]) (b1 := (2, 0, 0)) 0 (Or.inl rfl) (by decide) ko_L_law qM_14_60 (by decide) rfl rfl rfl rfl rfl h (Nat.le_of_ble_eq_true rfl) kc_L_law dL_law_647
theorem rL_law_650 : ab_Run X 288 650 (f, cl, sl) L (ab_I b :: ab_I a :: st) σ Q ↔ (a = b → ab_Run X 288 2374 (f, cl, sl) L st σ Q) ∧ (¬ (a = b) → ab_Run X 288 653 (f, cl, sl) L st σ Q) := ab_r_icmp_eq rfl kc_L_law dL_law_650
theorem rL_law_653 : ab_Run X 288 653 (f, cl, sl) L st σ Q ↔ ab_Run X 288 654 (f, cl, sl) L (ab_I 0 :: st) σ Q := ab_r_iconst (by decide) kc_L_law dL_law_653
theorem rL_law_654 : ab_Run X 288 654 (f, cl, sl) L [ab_I v] σ Q ↔ (v = 0 ∨ v = 1) ∧ Q (some (ab_I v)) σ := ab_r_ireturnZ rfl kc_L_law dL_law_654
theorem rL_law_655 : ab_Run X 288 655 (f, cl, sl) [l0, ab_R z, l2, l3, l4, l5, l6] st σ Q ↔ z ≠ 0 ∧ ab_Run X 288 656 (f, cl, sl) [l0, ab_R z, l2, l3, l4, l5, l6] (ab_R z :: st) σ Q := ab_r_aload_n rfl kc_L_law dL_law_655
theorem rL_law_656 : ab_Run X 288 656 (f, cl, sl) [ab_R z, l1, l2, l3, l4, l5, l6] st σ Q ↔ z ≠ 0 ∧ ab_Run X 288 657 (f, cl, sl) [ab_R z, l1, l2, l3, l4, l5, l6] (ab_R z :: st) σ Q := ab_r_aload_n rfl kc_L_law dL_law_656
theorem rL_law_657 : ab_Run X 288 657 (f, cl, sl) [l0, l1, l2, l3, ab_I z, l5, l6] st σ Q ↔ ab_Run X 288 659 (f, cl, sl) [l0, l1, l2, l3, ab_I z, l5, l6] (ab_I z :: st) σ Q := ab_r_iload rfl kc_L_law dL_law_657
theorem rL_law_659 : ab_Run X 288 659 (f, cl, sl) L st σ Q ↔ ab_Run X 288 660 (f, cl, sl) L (ab_I 1 :: st) σ Q := ab_r_iconst (by decide) kc_L_law dL_law_659
theorem rL_law_660 : ab_Run X 288 660 (f, cl, sl) L (ab_I b :: ab_I a :: st) σ Q ↔ ab_Run X 288 661 (f, cl, sl) L (ab_I (ab_w32 (a + b)) :: st) σ Q := ab_r_iadd kc_L_law dL_law_660
theorem rL_law_661 : ab_Run X 288 661 (f, cl, sl) L (ab_I i :: ab_R a :: st) σ Q ↔ (a = -1 ∧ 0 ≤ i ∧ i < X.1) ∧ ab_Run X 288 662 (f, cl, sl) L (ab_I (X.2 i) :: st) σ Q := ab_r_ialoadX rfl kc_L_law dL_law_661
theorem rL_law_662 : ab_Run X 288 662 (f, cl, sl) [ab_R z, l1, l2, l3, l4, l5, l6] st σ Q ↔ z ≠ 0 ∧ ab_Run X 288 663 (f, cl, sl) [ab_R z, l1, l2, l3, l4, l5, l6] (ab_R z :: st) σ Q := ab_r_aload_n rfl kc_L_law dL_law_662
theorem rL_law_663 : ab_Run X 288 663 (f, cl, sl) [l0, l1, l2, l3, ab_I z, l5, l6] st σ Q ↔ ab_Run X 288 665 (f, cl, sl) [l0, l1, l2, l3, ab_I z, l5, l6] (ab_I z :: st) σ Q := ab_r_iload rfl kc_L_law dL_law_663
theorem rL_law_665 : ab_Run X 288 665 (f, cl, sl) L st σ Q ↔ ab_Run X 288 666 (f, cl, sl) L (ab_I 2 :: st) σ Q := ab_r_iconst (by decide) kc_L_law dL_law_665
theorem rL_law_666 : ab_Run X 288 666 (f, cl, sl) L (ab_I b :: ab_I a :: st) σ Q ↔ ab_Run X 288 667 (f, cl, sl) L (ab_I (ab_w32 (a + b)) :: st) σ Q := ab_r_iadd kc_L_law dL_law_666
theorem rL_law_667 : ab_Run X 288 667 (f, cl, sl) L (ab_I i :: ab_R a :: st) σ Q ↔ (a = -1 ∧ 0 ≤ i ∧ i < X.1) ∧ ab_Run X 288 668 (f, cl, sl) L (ab_I (X.2 i) :: st) σ Q := ab_r_ialoadX rfl kc_L_law dL_law_667
theorem rL_law_668 : ab_Run X 288 668 (f, cl, sl) [ab_R z, l1, l2, l3, l4, l5, l6] st σ Q ↔ z ≠ 0 ∧ ab_Run X 288 669 (f, cl, sl) [ab_R z, l1, l2, l3, l4, l5, l6] (ab_R z :: st) σ Q := ab_r_aload_n rfl kc_L_law dL_law_668
theorem rL_law_669 : ab_Run X 288 669 (f, cl, sl) [l0, l1, l2, l3, ab_I z, l5, l6] st σ Q ↔ ab_Run X 288 671 (f, cl, sl) [l0, l1, l2, l3, ab_I z, l5, l6] (ab_I z :: st) σ Q := ab_r_iload rfl kc_L_law dL_law_669
theorem rL_law_671 : ab_Run X 288 671 (f, cl, sl) L st σ Q ↔ ab_Run X 288 672 (f, cl, sl) L (ab_I 3 :: st) σ Q := ab_r_iconst (by decide) kc_L_law dL_law_671
theorem rL_law_672 : ab_Run X 288 672 (f, cl, sl) L (ab_I b :: ab_I a :: st) σ Q ↔ ab_Run X 288 673 (f, cl, sl) L (ab_I (ab_w32 (a + b)) :: st) σ Q := ab_r_iadd kc_L_law dL_law_672
theorem rL_law_673 : ab_Run X 288 673 (f, cl, sl) L (ab_I i :: ab_R a :: st) σ Q ↔ (a = -1 ∧ 0 ≤ i ∧ i < X.1) ∧ ab_Run X 288 674 (f, cl, sl) L (ab_I (X.2 i) :: st) σ Q := ab_r_ialoadX rfl kc_L_law dL_law_673
theorem rL_law_674 : ab_Run X 288 674 (f, cl, sl) [ab_R z, l1, l2, l3, l4, l5, l6] st σ Q ↔ z ≠ 0 ∧ ab_Run X 288 675 (f, cl, sl) [ab_R z, l1, l2, l3, l4, l5, l6] (ab_R z :: st) σ Q := ab_r_aload_n rfl kc_L_law dL_law_674
theorem rL_law_675 : ab_Run X 288 675 (f, cl, sl) [l0, l1, l2, l3, ab_I z, l5, l6] st σ Q ↔ ab_Run X 288 677 (f, cl, sl) [l0, l1, l2, l3, ab_I z, l5, l6] (ab_I z :: st) σ Q := ab_r_iload rfl kc_L_law dL_law_675
theorem rL_law_677 : ab_Run X 288 677 (f, cl, sl) L st σ Q ↔ ab_Run X 288 678 (f, cl, sl) L (ab_I 4 :: st) σ Q := ab_r_iconst (by decide) kc_L_law dL_law_677
theorem rL_law_678 : ab_Run X 288 678 (f, cl, sl) L (ab_I b :: ab_I a :: st) σ Q ↔ ab_Run X 288 679 (f, cl, sl) L (ab_I (ab_w32 (a + b)) :: st) σ Q := ab_r_iadd kc_L_law dL_law_678
theorem rL_law_679 : ab_Run X 288 679 (f, cl, sl) L (ab_I i :: ab_R a :: st) σ Q ↔ (a = -1 ∧ 0 ≤ i ∧ i < X.1) ∧ ab_Run X 288 680 (f, cl, sl) L (ab_I (X.2 i) :: st) σ Q := ab_r_ialoadX rfl kc_L_law dL_law_679
theorem rL_law_680 : ab_Run X 288 680 (f, cl, sl) [ab_R z, l1, l2, l3, l4, l5, l6] st σ Q ↔ z ≠ 0 ∧ ab_Run X 288 681 (f, cl, sl) [ab_R z, l1, l2, l3, l4, l5, l6] (ab_R z :: st) σ Q := ab_r_aload_n rfl kc_L_law dL_law_680
theorem rL_law_681 : ab_Run X 288 681 (f, cl, sl) [l0, l1, l2, l3, ab_I z, l5, l6] st σ Q ↔ ab_Run X 288 683 (f, cl, sl) [l0, l1, l2, l3, ab_I z, l5, l6] (ab_I z :: st) σ Q := ab_r_iload rfl kc_L_law dL_law_681
theorem rL_law_683 : ab_Run X 288 683 (f, cl, sl) L st σ Q ↔ ab_Run X 288 684 (f, cl, sl) L (ab_I 5 :: st) σ Q := ab_r_iconst (by decide) kc_L_law dL_law_683
theorem rL_law_684 : ab_Run X 288 684 (f, cl, sl) L (ab_I b :: ab_I a :: st) σ Q ↔ ab_Run X 288 685 (f, cl, sl) L (ab_I (ab_w32 (a + b)) :: st) σ Q := ab_r_iadd kc_L_law dL_law_684
theorem rL_law_685 : ab_Run X 288 685 (f, cl, sl) L (ab_I i :: ab_R a :: st) σ Q ↔ (a = -1 ∧ 0 ≤ i ∧ i < X.1) ∧ ab_Run X 288 686 (f, cl, sl) L (ab_I (X.2 i) :: st) σ Q := ab_r_ialoadX rfl kc_L_law dL_law_685
theorem rL_law_686 : ab_Run X 288 686 (f, cl, sl) [ab_R z, l1, l2, l3, l4, l5, l6] st σ Q ↔ z ≠ 0 ∧ ab_Run X 288 687 (f, cl, sl) [ab_R z, l1, l2, l3, l4, l5, l6] (ab_R z :: st) σ Q := ab_r_aload_n rfl kc_L_law dL_law_686
theorem rL_law_687 : ab_Run X 288 687 (f, cl, sl) [l0, l1, l2, l3, ab_I z, l5, l6] st σ Q ↔ ab_Run X 288 689 (f, cl, sl) [l0, l1, l2, l3, ab_I z, l5, l6] (ab_I z :: st) σ Q := ab_r_iload rfl kc_L_law dL_law_687
theorem rL_law_689 : ab_Run X 288 689 (f, cl, sl) L st σ Q ↔ ab_Run X 288 691 (f, cl, sl) L (ab_I 6 :: st) σ Q := ab_r_bipush (by decide) kc_L_law dL_law_689
theorem rL_law_691 : ab_Run X 288 691 (f, cl, sl) L (ab_I b :: ab_I a :: st) σ Q ↔ ab_Run X 288 692 (f, cl, sl) L (ab_I (ab_w32 (a + b)) :: st) σ Q := ab_r_iadd kc_L_law dL_law_691
theorem rL_law_692 : ab_Run X 288 692 (f, cl, sl) L (ab_I i :: ab_R a :: st) σ Q ↔ (a = -1 ∧ 0 ≤ i ∧ i < X.1) ∧ ab_Run X 288 693 (f, cl, sl) L (ab_I (X.2 i) :: st) σ Q := ab_r_ialoadX rfl kc_L_law dL_law_692
theorem rL_law_693 (h : 4 + 1 ≤ f ∧ 0 ≤ cl ∧ 0 ≤ sl) : ab_Run X 288 693 (f, cl, sl) L (ab_I x6 :: ab_I x5 :: ab_I x4 :: ab_I x3 :: ab_I x2 :: ab_I x1 :: ab_R a :: st) σ Q ↔ ((ab_sh σ a).1 = 12 ∧ ab_cats st ≤ 8) ∧ ab_Do X 89 [ab_R a, ab_I x1, ab_I x2, ab_I x3, ab_I x4, ab_I x5, ab_I x6] σ (fun r σ' => ab_Run X 288 696 (f, cl, sl) L (ab_psh r st) σ' Q) := ab_r_callV (w := [ab_I x6, ab_I x5, ab_I x4, ab_I x3, ab_I x2, ab_I x1]) (as := [ab_I x1, ab_I x2, ab_I x3, ab_I x4, ab_I x5, ab_I x6]) (b1 := (4, 0, 0)) 0 (Or.inl rfl) (by decide) ko_L_law qM_14_61 (by decide) rfl rfl rfl rfl rfl h (Nat.le_of_ble_eq_true rfl) kc_L_law dL_law_693
theorem rL_law_696 : ab_Run X 288 696 (f, cl, sl) [l0, l1, ab_R z, l3, l4, l5, l6] st σ Q ↔ z ≠ 0 ∧ ab_Run X 288 697 (f, cl, sl) [l0, l1, ab_R z, l3, l4, l5, l6] (ab_R z :: st) σ Q := ab_r_aload_n rfl kc_L_law dL_law_696
theorem rL_law_697 : ab_Run X 288 697 (f, cl, sl) [ab_R z, l1, l2, l3, l4, l5, l6] st σ Q ↔ z ≠ 0 ∧ ab_Run X 288 698 (f, cl, sl) [ab_R z, l1, l2, l3, l4, l5, l6] (ab_R z :: st) σ Q := ab_r_aload_n rfl kc_L_law dL_law_697
theorem rL_law_698 : ab_Run X 288 698 (f, cl, sl) [l0, l1, l2, l3, ab_I z, l5, l6] st σ Q ↔ ab_Run X 288 700 (f, cl, sl) [l0, l1, l2, l3, ab_I z, l5, l6] (ab_I z :: st) σ Q := ab_r_iload rfl kc_L_law dL_law_698
theorem rL_law_700 : ab_Run X 288 700 (f, cl, sl) L st σ Q ↔ ab_Run X 288 701 (f, cl, sl) L (ab_I 1 :: st) σ Q := ab_r_iconst (by decide) kc_L_law dL_law_700
theorem rL_law_701 : ab_Run X 288 701 (f, cl, sl) L (ab_I b :: ab_I a :: st) σ Q ↔ ab_Run X 288 702 (f, cl, sl) L (ab_I (ab_w32 (a + b)) :: st) σ Q := ab_r_iadd kc_L_law dL_law_701
theorem rL_law_702 : ab_Run X 288 702 (f, cl, sl) L (ab_I i :: ab_R a :: st) σ Q ↔ (a = -1 ∧ 0 ≤ i ∧ i < X.1) ∧ ab_Run X 288 703 (f, cl, sl) L (ab_I (X.2 i) :: st) σ Q := ab_r_ialoadX rfl kc_L_law dL_law_702
theorem rL_law_703 : ab_Run X 288 703 (f, cl, sl) [ab_R z, l1, l2, l3, l4, l5, l6] st σ Q ↔ z ≠ 0 ∧ ab_Run X 288 704 (f, cl, sl) [ab_R z, l1, l2, l3, l4, l5, l6] (ab_R z :: st) σ Q := ab_r_aload_n rfl kc_L_law dL_law_703
theorem rL_law_704 : ab_Run X 288 704 (f, cl, sl) [l0, l1, l2, l3, ab_I z, l5, l6] st σ Q ↔ ab_Run X 288 706 (f, cl, sl) [l0, l1, l2, l3, ab_I z, l5, l6] (ab_I z :: st) σ Q := ab_r_iload rfl kc_L_law dL_law_704
theorem rL_law_706 : ab_Run X 288 706 (f, cl, sl) L st σ Q ↔ ab_Run X 288 707 (f, cl, sl) L (ab_I 2 :: st) σ Q := ab_r_iconst (by decide) kc_L_law dL_law_706
theorem rL_law_707 : ab_Run X 288 707 (f, cl, sl) L (ab_I b :: ab_I a :: st) σ Q ↔ ab_Run X 288 708 (f, cl, sl) L (ab_I (ab_w32 (a + b)) :: st) σ Q := ab_r_iadd kc_L_law dL_law_707
theorem rL_law_708 : ab_Run X 288 708 (f, cl, sl) L (ab_I i :: ab_R a :: st) σ Q ↔ (a = -1 ∧ 0 ≤ i ∧ i < X.1) ∧ ab_Run X 288 709 (f, cl, sl) L (ab_I (X.2 i) :: st) σ Q := ab_r_ialoadX rfl kc_L_law dL_law_708
theorem rL_law_709 : ab_Run X 288 709 (f, cl, sl) [ab_R z, l1, l2, l3, l4, l5, l6] st σ Q ↔ z ≠ 0 ∧ ab_Run X 288 710 (f, cl, sl) [ab_R z, l1, l2, l3, l4, l5, l6] (ab_R z :: st) σ Q := ab_r_aload_n rfl kc_L_law dL_law_709
theorem rL_law_710 : ab_Run X 288 710 (f, cl, sl) [l0, l1, l2, l3, ab_I z, l5, l6] st σ Q ↔ ab_Run X 288 712 (f, cl, sl) [l0, l1, l2, l3, ab_I z, l5, l6] (ab_I z :: st) σ Q := ab_r_iload rfl kc_L_law dL_law_710
theorem rL_law_712 : ab_Run X 288 712 (f, cl, sl) L st σ Q ↔ ab_Run X 288 713 (f, cl, sl) L (ab_I 3 :: st) σ Q := ab_r_iconst (by decide) kc_L_law dL_law_712
theorem rL_law_713 : ab_Run X 288 713 (f, cl, sl) L (ab_I b :: ab_I a :: st) σ Q ↔ ab_Run X 288 714 (f, cl, sl) L (ab_I (ab_w32 (a + b)) :: st) σ Q := ab_r_iadd kc_L_law dL_law_713
theorem rL_law_714 : ab_Run X 288 714 (f, cl, sl) L (ab_I i :: ab_R a :: st) σ Q ↔ (a = -1 ∧ 0 ≤ i ∧ i < X.1) ∧ ab_Run X 288 715 (f, cl, sl) L (ab_I (X.2 i) :: st) σ Q := ab_r_ialoadX rfl kc_L_law dL_law_714
theorem rL_law_715 : ab_Run X 288 715 (f, cl, sl) [ab_R z, l1, l2, l3, l4, l5, l6] st σ Q ↔ z ≠ 0 ∧ ab_Run X 288 716 (f, cl, sl) [ab_R z, l1, l2, l3, l4, l5, l6] (ab_R z :: st) σ Q := ab_r_aload_n rfl kc_L_law dL_law_715
theorem rL_law_716 : ab_Run X 288 716 (f, cl, sl) [l0, l1, l2, l3, ab_I z, l5, l6] st σ Q ↔ ab_Run X 288 718 (f, cl, sl) [l0, l1, l2, l3, ab_I z, l5, l6] (ab_I z :: st) σ Q := ab_r_iload rfl kc_L_law dL_law_716
theorem rL_law_718 : ab_Run X 288 718 (f, cl, sl) L st σ Q ↔ ab_Run X 288 719 (f, cl, sl) L (ab_I 4 :: st) σ Q := ab_r_iconst (by decide) kc_L_law dL_law_718
theorem rL_law_719 : ab_Run X 288 719 (f, cl, sl) L (ab_I b :: ab_I a :: st) σ Q ↔ ab_Run X 288 720 (f, cl, sl) L (ab_I (ab_w32 (a + b)) :: st) σ Q := ab_r_iadd kc_L_law dL_law_719
theorem rL_law_720 : ab_Run X 288 720 (f, cl, sl) L (ab_I i :: ab_R a :: st) σ Q ↔ (a = -1 ∧ 0 ≤ i ∧ i < X.1) ∧ ab_Run X 288 721 (f, cl, sl) L (ab_I (X.2 i) :: st) σ Q := ab_r_ialoadX rfl kc_L_law dL_law_720
theorem rL_law_721 : ab_Run X 288 721 (f, cl, sl) [ab_R z, l1, l2, l3, l4, l5, l6] st σ Q ↔ z ≠ 0 ∧ ab_Run X 288 722 (f, cl, sl) [ab_R z, l1, l2, l3, l4, l5, l6] (ab_R z :: st) σ Q := ab_r_aload_n rfl kc_L_law dL_law_721
theorem rL_law_722 : ab_Run X 288 722 (f, cl, sl) [l0, l1, l2, l3, ab_I z, l5, l6] st σ Q ↔ ab_Run X 288 724 (f, cl, sl) [l0, l1, l2, l3, ab_I z, l5, l6] (ab_I z :: st) σ Q := ab_r_iload rfl kc_L_law dL_law_722
theorem rL_law_724 : ab_Run X 288 724 (f, cl, sl) L st σ Q ↔ ab_Run X 288 725 (f, cl, sl) L (ab_I 5 :: st) σ Q := ab_r_iconst (by decide) kc_L_law dL_law_724
theorem rL_law_725 : ab_Run X 288 725 (f, cl, sl) L (ab_I b :: ab_I a :: st) σ Q ↔ ab_Run X 288 726 (f, cl, sl) L (ab_I (ab_w32 (a + b)) :: st) σ Q := ab_r_iadd kc_L_law dL_law_725
theorem rL_law_726 : ab_Run X 288 726 (f, cl, sl) L (ab_I i :: ab_R a :: st) σ Q ↔ (a = -1 ∧ 0 ≤ i ∧ i < X.1) ∧ ab_Run X 288 727 (f, cl, sl) L (ab_I (X.2 i) :: st) σ Q := ab_r_ialoadX rfl kc_L_law dL_law_726
theorem rL_law_727 : ab_Run X 288 727 (f, cl, sl) [ab_R z, l1, l2, l3, l4, l5, l6] st σ Q ↔ z ≠ 0 ∧ ab_Run X 288 728 (f, cl, sl) [ab_R z, l1, l2, l3, l4, l5, l6] (ab_R z :: st) σ Q := ab_r_aload_n rfl kc_L_law dL_law_727
theorem rL_law_728 : ab_Run X 288 728 (f, cl, sl) [l0, l1, l2, l3, ab_I z, l5, l6] st σ Q ↔ ab_Run X 288 730 (f, cl, sl) [l0, l1, l2, l3, ab_I z, l5, l6] (ab_I z :: st) σ Q := ab_r_iload rfl kc_L_law dL_law_728
theorem rL_law_730 : ab_Run X 288 730 (f, cl, sl) L st σ Q ↔ ab_Run X 288 732 (f, cl, sl) L (ab_I 6 :: st) σ Q := ab_r_bipush (by decide) kc_L_law dL_law_730
theorem rL_law_732 : ab_Run X 288 732 (f, cl, sl) L (ab_I b :: ab_I a :: st) σ Q ↔ ab_Run X 288 733 (f, cl, sl) L (ab_I (ab_w32 (a + b)) :: st) σ Q := ab_r_iadd kc_L_law dL_law_732
theorem rL_law_733 : ab_Run X 288 733 (f, cl, sl) L (ab_I i :: ab_R a :: st) σ Q ↔ (a = -1 ∧ 0 ≤ i ∧ i < X.1) ∧ ab_Run X 288 734 (f, cl, sl) L (ab_I (X.2 i) :: st) σ Q := ab_r_ialoadX rfl kc_L_law dL_law_733
theorem rL_law_734 (h : 5 + 1 ≤ f ∧ 0 ≤ cl ∧ 0 ≤ sl) : ab_Run X 288 734 (f, cl, sl) L (ab_I x6 :: ab_I x5 :: ab_I x4 :: ab_I x3 :: ab_I x2 :: ab_I x1 :: ab_R a :: st) σ Q ↔ ((ab_sh σ a).1 = 14 ∧ ab_cats st ≤ 8) ∧ ab_Do X 224 [ab_R a, ab_I x1, ab_I x2, ab_I x3, ab_I x4, ab_I x5, ab_I x6] σ (fun r σ' => ab_Run X 288 737 (f, cl, sl) L (ab_psh r st) σ' Q) := ab_r_callV (w := [ab_I x6, ab_I x5, ab_I x4, ab_I x3, ab_I x2, ab_I x1]) (as := [ab_I x1, ab_I x2, ab_I x3, ab_I x4, ab_I x5, ab_I x6]) (b1 := (5, 0, 0)) 0 (Or.inl rfl) (by decide) ko_L_law qM_14_65 (by decide) rfl rfl rfl rfl rfl h (Nat.le_of_ble_eq_true rfl) kc_L_law dL_law_734
theorem rL_law_737 : ab_Run X 288 737 (f, cl, sl) L (ab_I b :: ab_I a :: st) σ Q ↔ (a = b → ab_Run X 288 2374 (f, cl, sl) L st σ Q) ∧ (¬ (a = b) → ab_Run X 288 740 (f, cl, sl) L st σ Q) := ab_r_icmp_eq rfl kc_L_law dL_law_737
theorem rL_law_740 : ab_Run X 288 740 (f, cl, sl) L st σ Q ↔ ab_Run X 288 741 (f, cl, sl) L (ab_I 0 :: st) σ Q := ab_r_iconst (by decide) kc_L_law dL_law_740
theorem rL_law_741 : ab_Run X 288 741 (f, cl, sl) L [ab_I v] σ Q ↔ (v = 0 ∨ v = 1) ∧ Q (some (ab_I v)) σ := ab_r_ireturnZ rfl kc_L_law dL_law_741
theorem rL_law_742 : ab_Run X 288 742 (f, cl, sl) [l0, ab_R z, l2, l3, l4, l5, l6] st σ Q ↔ z ≠ 0 ∧ ab_Run X 288 743 (f, cl, sl) [l0, ab_R z, l2, l3, l4, l5, l6] (ab_R z :: st) σ Q := ab_r_aload_n rfl kc_L_law dL_law_742
theorem rL_law_743 : ab_Run X 288 743 (f, cl, sl) [ab_R z, l1, l2, l3, l4, l5, l6] st σ Q ↔ z ≠ 0 ∧ ab_Run X 288 744 (f, cl, sl) [ab_R z, l1, l2, l3, l4, l5, l6] (ab_R z :: st) σ Q := ab_r_aload_n rfl kc_L_law dL_law_743
theorem rL_law_744 : ab_Run X 288 744 (f, cl, sl) [l0, l1, l2, l3, ab_I z, l5, l6] st σ Q ↔ ab_Run X 288 746 (f, cl, sl) [l0, l1, l2, l3, ab_I z, l5, l6] (ab_I z :: st) σ Q := ab_r_iload rfl kc_L_law dL_law_744
theorem rL_law_746 : ab_Run X 288 746 (f, cl, sl) L st σ Q ↔ ab_Run X 288 747 (f, cl, sl) L (ab_I 1 :: st) σ Q := ab_r_iconst (by decide) kc_L_law dL_law_746
theorem rL_law_747 : ab_Run X 288 747 (f, cl, sl) L (ab_I b :: ab_I a :: st) σ Q ↔ ab_Run X 288 748 (f, cl, sl) L (ab_I (ab_w32 (a + b)) :: st) σ Q := ab_r_iadd kc_L_law dL_law_747
theorem rL_law_748 : ab_Run X 288 748 (f, cl, sl) L (ab_I i :: ab_R a :: st) σ Q ↔ (a = -1 ∧ 0 ≤ i ∧ i < X.1) ∧ ab_Run X 288 749 (f, cl, sl) L (ab_I (X.2 i) :: st) σ Q := ab_r_ialoadX rfl kc_L_law dL_law_748
theorem rL_law_749 : ab_Run X 288 749 (f, cl, sl) [ab_R z, l1, l2, l3, l4, l5, l6] st σ Q ↔ z ≠ 0 ∧ ab_Run X 288 750 (f, cl, sl) [ab_R z, l1, l2, l3, l4, l5, l6] (ab_R z :: st) σ Q := ab_r_aload_n rfl kc_L_law dL_law_749
theorem rL_law_750 : ab_Run X 288 750 (f, cl, sl) [l0, l1, l2, l3, ab_I z, l5, l6] st σ Q ↔ ab_Run X 288 752 (f, cl, sl) [l0, l1, l2, l3, ab_I z, l5, l6] (ab_I z :: st) σ Q := ab_r_iload rfl kc_L_law dL_law_750
theorem rL_law_752 : ab_Run X 288 752 (f, cl, sl) L st σ Q ↔ ab_Run X 288 753 (f, cl, sl) L (ab_I 2 :: st) σ Q := ab_r_iconst (by decide) kc_L_law dL_law_752
theorem rL_law_753 : ab_Run X 288 753 (f, cl, sl) L (ab_I b :: ab_I a :: st) σ Q ↔ ab_Run X 288 754 (f, cl, sl) L (ab_I (ab_w32 (a + b)) :: st) σ Q := ab_r_iadd kc_L_law dL_law_753
theorem rL_law_754 : ab_Run X 288 754 (f, cl, sl) L (ab_I i :: ab_R a :: st) σ Q ↔ (a = -1 ∧ 0 ≤ i ∧ i < X.1) ∧ ab_Run X 288 755 (f, cl, sl) L (ab_I (X.2 i) :: st) σ Q := ab_r_ialoadX rfl kc_L_law dL_law_754
theorem rL_law_755 : ab_Run X 288 755 (f, cl, sl) [ab_R z, l1, l2, l3, l4, l5, l6] st σ Q ↔ z ≠ 0 ∧ ab_Run X 288 756 (f, cl, sl) [ab_R z, l1, l2, l3, l4, l5, l6] (ab_R z :: st) σ Q := ab_r_aload_n rfl kc_L_law dL_law_755
theorem rL_law_756 : ab_Run X 288 756 (f, cl, sl) [l0, l1, l2, l3, ab_I z, l5, l6] st σ Q ↔ ab_Run X 288 758 (f, cl, sl) [l0, l1, l2, l3, ab_I z, l5, l6] (ab_I z :: st) σ Q := ab_r_iload rfl kc_L_law dL_law_756
theorem rL_law_758 : ab_Run X 288 758 (f, cl, sl) L st σ Q ↔ ab_Run X 288 759 (f, cl, sl) L (ab_I 3 :: st) σ Q := ab_r_iconst (by decide) kc_L_law dL_law_758
theorem rL_law_759 : ab_Run X 288 759 (f, cl, sl) L (ab_I b :: ab_I a :: st) σ Q ↔ ab_Run X 288 760 (f, cl, sl) L (ab_I (ab_w32 (a + b)) :: st) σ Q := ab_r_iadd kc_L_law dL_law_759
theorem rL_law_760 : ab_Run X 288 760 (f, cl, sl) L (ab_I i :: ab_R a :: st) σ Q ↔ (a = -1 ∧ 0 ≤ i ∧ i < X.1) ∧ ab_Run X 288 761 (f, cl, sl) L (ab_I (X.2 i) :: st) σ Q := ab_r_ialoadX rfl kc_L_law dL_law_760
theorem rL_law_761 : ab_Run X 288 761 (f, cl, sl) [ab_R z, l1, l2, l3, l4, l5, l6] st σ Q ↔ z ≠ 0 ∧ ab_Run X 288 762 (f, cl, sl) [ab_R z, l1, l2, l3, l4, l5, l6] (ab_R z :: st) σ Q := ab_r_aload_n rfl kc_L_law dL_law_761
theorem rL_law_762 : ab_Run X 288 762 (f, cl, sl) [l0, l1, l2, l3, ab_I z, l5, l6] st σ Q ↔ ab_Run X 288 764 (f, cl, sl) [l0, l1, l2, l3, ab_I z, l5, l6] (ab_I z :: st) σ Q := ab_r_iload rfl kc_L_law dL_law_762
theorem rL_law_764 : ab_Run X 288 764 (f, cl, sl) L st σ Q ↔ ab_Run X 288 765 (f, cl, sl) L (ab_I 4 :: st) σ Q := ab_r_iconst (by decide) kc_L_law dL_law_764
theorem rL_law_765 : ab_Run X 288 765 (f, cl, sl) L (ab_I b :: ab_I a :: st) σ Q ↔ ab_Run X 288 766 (f, cl, sl) L (ab_I (ab_w32 (a + b)) :: st) σ Q := ab_r_iadd kc_L_law dL_law_765
theorem rL_law_766 : ab_Run X 288 766 (f, cl, sl) L (ab_I i :: ab_R a :: st) σ Q ↔ (a = -1 ∧ 0 ≤ i ∧ i < X.1) ∧ ab_Run X 288 767 (f, cl, sl) L (ab_I (X.2 i) :: st) σ Q := ab_r_ialoadX rfl kc_L_law dL_law_766
theorem rL_law_767 : ab_Run X 288 767 (f, cl, sl) [ab_R z, l1, l2, l3, l4, l5, l6] st σ Q ↔ z ≠ 0 ∧ ab_Run X 288 768 (f, cl, sl) [ab_R z, l1, l2, l3, l4, l5, l6] (ab_R z :: st) σ Q := ab_r_aload_n rfl kc_L_law dL_law_767
theorem rL_law_768 : ab_Run X 288 768 (f, cl, sl) [l0, l1, l2, l3, ab_I z, l5, l6] st σ Q ↔ ab_Run X 288 770 (f, cl, sl) [l0, l1, l2, l3, ab_I z, l5, l6] (ab_I z :: st) σ Q := ab_r_iload rfl kc_L_law dL_law_768
theorem rL_law_770 : ab_Run X 288 770 (f, cl, sl) L st σ Q ↔ ab_Run X 288 771 (f, cl, sl) L (ab_I 5 :: st) σ Q := ab_r_iconst (by decide) kc_L_law dL_law_770
theorem rL_law_771 : ab_Run X 288 771 (f, cl, sl) L (ab_I b :: ab_I a :: st) σ Q ↔ ab_Run X 288 772 (f, cl, sl) L (ab_I (ab_w32 (a + b)) :: st) σ Q := ab_r_iadd kc_L_law dL_law_771
theorem rL_law_772 : ab_Run X 288 772 (f, cl, sl) L (ab_I i :: ab_R a :: st) σ Q ↔ (a = -1 ∧ 0 ≤ i ∧ i < X.1) ∧ ab_Run X 288 773 (f, cl, sl) L (ab_I (X.2 i) :: st) σ Q := ab_r_ialoadX rfl kc_L_law dL_law_772
theorem rL_law_773 : ab_Run X 288 773 (f, cl, sl) [ab_R z, l1, l2, l3, l4, l5, l6] st σ Q ↔ z ≠ 0 ∧ ab_Run X 288 774 (f, cl, sl) [ab_R z, l1, l2, l3, l4, l5, l6] (ab_R z :: st) σ Q := ab_r_aload_n rfl kc_L_law dL_law_773
theorem rL_law_774 : ab_Run X 288 774 (f, cl, sl) [l0, l1, l2, l3, ab_I z, l5, l6] st σ Q ↔ ab_Run X 288 776 (f, cl, sl) [l0, l1, l2, l3, ab_I z, l5, l6] (ab_I z :: st) σ Q := ab_r_iload rfl kc_L_law dL_law_774
theorem rL_law_776 : ab_Run X 288 776 (f, cl, sl) L st σ Q ↔ ab_Run X 288 778 (f, cl, sl) L (ab_I 6 :: st) σ Q := ab_r_bipush (by decide) kc_L_law dL_law_776
theorem rL_law_778 : ab_Run X 288 778 (f, cl, sl) L (ab_I b :: ab_I a :: st) σ Q ↔ ab_Run X 288 779 (f, cl, sl) L (ab_I (ab_w32 (a + b)) :: st) σ Q := ab_r_iadd kc_L_law dL_law_778
theorem rL_law_779 : ab_Run X 288 779 (f, cl, sl) L (ab_I i :: ab_R a :: st) σ Q ↔ (a = -1 ∧ 0 ≤ i ∧ i < X.1) ∧ ab_Run X 288 780 (f, cl, sl) L (ab_I (X.2 i) :: st) σ Q := ab_r_ialoadX rfl kc_L_law dL_law_779
theorem rL_law_780 (h : 4 + 1 ≤ f ∧ 0 ≤ cl ∧ 0 ≤ sl) : ab_Run X 288 780 (f, cl, sl) L (ab_I x6 :: ab_I x5 :: ab_I x4 :: ab_I x3 :: ab_I x2 :: ab_I x1 :: ab_R a :: st) σ Q ↔ ((ab_sh σ a).1 = 12 ∧ ab_cats st ≤ 8) ∧ ab_Do X 90 [ab_R a, ab_I x1, ab_I x2, ab_I x3, ab_I x4, ab_I x5, ab_I x6] σ (fun r σ' => ab_Run X 288 783 (f, cl, sl) L (ab_psh r st) σ' Q) := ab_r_callV (w := [ab_I x6, ab_I x5, ab_I x4, ab_I x3, ab_I x2, ab_I x1]) (as := [ab_I x1, ab_I x2, ab_I x3, ab_I x4, ab_I x5, ab_I x6]) (b1 := (4, 0, 0)) 0 (Or.inl rfl) (by decide) ko_L_law qM_14_66 (by decide) rfl rfl rfl rfl rfl h (Nat.le_of_ble_eq_true rfl) kc_L_law dL_law_780
theorem rL_law_783 : ab_Run X 288 783 (f, cl, sl) [l0, l1, ab_R z, l3, l4, l5, l6] st σ Q ↔ z ≠ 0 ∧ ab_Run X 288 784 (f, cl, sl) [l0, l1, ab_R z, l3, l4, l5, l6] (ab_R z :: st) σ Q := ab_r_aload_n rfl kc_L_law dL_law_783
theorem rL_law_784 : ab_Run X 288 784 (f, cl, sl) [ab_R z, l1, l2, l3, l4, l5, l6] st σ Q ↔ z ≠ 0 ∧ ab_Run X 288 785 (f, cl, sl) [ab_R z, l1, l2, l3, l4, l5, l6] (ab_R z :: st) σ Q := ab_r_aload_n rfl kc_L_law dL_law_784
theorem rL_law_785 : ab_Run X 288 785 (f, cl, sl) [l0, l1, l2, l3, ab_I z, l5, l6] st σ Q ↔ ab_Run X 288 787 (f, cl, sl) [l0, l1, l2, l3, ab_I z, l5, l6] (ab_I z :: st) σ Q := ab_r_iload rfl kc_L_law dL_law_785
theorem rL_law_787 : ab_Run X 288 787 (f, cl, sl) L st σ Q ↔ ab_Run X 288 788 (f, cl, sl) L (ab_I 1 :: st) σ Q := ab_r_iconst (by decide) kc_L_law dL_law_787
theorem rL_law_788 : ab_Run X 288 788 (f, cl, sl) L (ab_I b :: ab_I a :: st) σ Q ↔ ab_Run X 288 789 (f, cl, sl) L (ab_I (ab_w32 (a + b)) :: st) σ Q := ab_r_iadd kc_L_law dL_law_788
theorem rL_law_789 : ab_Run X 288 789 (f, cl, sl) L (ab_I i :: ab_R a :: st) σ Q ↔ (a = -1 ∧ 0 ≤ i ∧ i < X.1) ∧ ab_Run X 288 790 (f, cl, sl) L (ab_I (X.2 i) :: st) σ Q := ab_r_ialoadX rfl kc_L_law dL_law_789
theorem rL_law_790 : ab_Run X 288 790 (f, cl, sl) [ab_R z, l1, l2, l3, l4, l5, l6] st σ Q ↔ z ≠ 0 ∧ ab_Run X 288 791 (f, cl, sl) [ab_R z, l1, l2, l3, l4, l5, l6] (ab_R z :: st) σ Q := ab_r_aload_n rfl kc_L_law dL_law_790
theorem rL_law_791 : ab_Run X 288 791 (f, cl, sl) [l0, l1, l2, l3, ab_I z, l5, l6] st σ Q ↔ ab_Run X 288 793 (f, cl, sl) [l0, l1, l2, l3, ab_I z, l5, l6] (ab_I z :: st) σ Q := ab_r_iload rfl kc_L_law dL_law_791
theorem rL_law_793 : ab_Run X 288 793 (f, cl, sl) L st σ Q ↔ ab_Run X 288 794 (f, cl, sl) L (ab_I 2 :: st) σ Q := ab_r_iconst (by decide) kc_L_law dL_law_793
theorem rL_law_794 : ab_Run X 288 794 (f, cl, sl) L (ab_I b :: ab_I a :: st) σ Q ↔ ab_Run X 288 795 (f, cl, sl) L (ab_I (ab_w32 (a + b)) :: st) σ Q := ab_r_iadd kc_L_law dL_law_794
theorem rL_law_795 : ab_Run X 288 795 (f, cl, sl) L (ab_I i :: ab_R a :: st) σ Q ↔ (a = -1 ∧ 0 ≤ i ∧ i < X.1) ∧ ab_Run X 288 796 (f, cl, sl) L (ab_I (X.2 i) :: st) σ Q := ab_r_ialoadX rfl kc_L_law dL_law_795
theorem rL_law_796 : ab_Run X 288 796 (f, cl, sl) [ab_R z, l1, l2, l3, l4, l5, l6] st σ Q ↔ z ≠ 0 ∧ ab_Run X 288 797 (f, cl, sl) [ab_R z, l1, l2, l3, l4, l5, l6] (ab_R z :: st) σ Q := ab_r_aload_n rfl kc_L_law dL_law_796
theorem rL_law_797 : ab_Run X 288 797 (f, cl, sl) [l0, l1, l2, l3, ab_I z, l5, l6] st σ Q ↔ ab_Run X 288 799 (f, cl, sl) [l0, l1, l2, l3, ab_I z, l5, l6] (ab_I z :: st) σ Q := ab_r_iload rfl kc_L_law dL_law_797
theorem rL_law_799 : ab_Run X 288 799 (f, cl, sl) L st σ Q ↔ ab_Run X 288 800 (f, cl, sl) L (ab_I 3 :: st) σ Q := ab_r_iconst (by decide) kc_L_law dL_law_799
theorem rL_law_800 : ab_Run X 288 800 (f, cl, sl) L (ab_I b :: ab_I a :: st) σ Q ↔ ab_Run X 288 801 (f, cl, sl) L (ab_I (ab_w32 (a + b)) :: st) σ Q := ab_r_iadd kc_L_law dL_law_800
theorem rL_law_801 : ab_Run X 288 801 (f, cl, sl) L (ab_I i :: ab_R a :: st) σ Q ↔ (a = -1 ∧ 0 ≤ i ∧ i < X.1) ∧ ab_Run X 288 802 (f, cl, sl) L (ab_I (X.2 i) :: st) σ Q := ab_r_ialoadX rfl kc_L_law dL_law_801
theorem rL_law_802 : ab_Run X 288 802 (f, cl, sl) [ab_R z, l1, l2, l3, l4, l5, l6] st σ Q ↔ z ≠ 0 ∧ ab_Run X 288 803 (f, cl, sl) [ab_R z, l1, l2, l3, l4, l5, l6] (ab_R z :: st) σ Q := ab_r_aload_n rfl kc_L_law dL_law_802
theorem rL_law_803 : ab_Run X 288 803 (f, cl, sl) [l0, l1, l2, l3, ab_I z, l5, l6] st σ Q ↔ ab_Run X 288 805 (f, cl, sl) [l0, l1, l2, l3, ab_I z, l5, l6] (ab_I z :: st) σ Q := ab_r_iload rfl kc_L_law dL_law_803
theorem rL_law_805 : ab_Run X 288 805 (f, cl, sl) L st σ Q ↔ ab_Run X 288 806 (f, cl, sl) L (ab_I 4 :: st) σ Q := ab_r_iconst (by decide) kc_L_law dL_law_805
theorem rL_law_806 : ab_Run X 288 806 (f, cl, sl) L (ab_I b :: ab_I a :: st) σ Q ↔ ab_Run X 288 807 (f, cl, sl) L (ab_I (ab_w32 (a + b)) :: st) σ Q := ab_r_iadd kc_L_law dL_law_806
theorem rL_law_807 : ab_Run X 288 807 (f, cl, sl) L (ab_I i :: ab_R a :: st) σ Q ↔ (a = -1 ∧ 0 ≤ i ∧ i < X.1) ∧ ab_Run X 288 808 (f, cl, sl) L (ab_I (X.2 i) :: st) σ Q := ab_r_ialoadX rfl kc_L_law dL_law_807
theorem rL_law_808 : ab_Run X 288 808 (f, cl, sl) [ab_R z, l1, l2, l3, l4, l5, l6] st σ Q ↔ z ≠ 0 ∧ ab_Run X 288 809 (f, cl, sl) [ab_R z, l1, l2, l3, l4, l5, l6] (ab_R z :: st) σ Q := ab_r_aload_n rfl kc_L_law dL_law_808
theorem rL_law_809 : ab_Run X 288 809 (f, cl, sl) [l0, l1, l2, l3, ab_I z, l5, l6] st σ Q ↔ ab_Run X 288 811 (f, cl, sl) [l0, l1, l2, l3, ab_I z, l5, l6] (ab_I z :: st) σ Q := ab_r_iload rfl kc_L_law dL_law_809
theorem rL_law_811 : ab_Run X 288 811 (f, cl, sl) L st σ Q ↔ ab_Run X 288 812 (f, cl, sl) L (ab_I 5 :: st) σ Q := ab_r_iconst (by decide) kc_L_law dL_law_811
theorem rL_law_812 : ab_Run X 288 812 (f, cl, sl) L (ab_I b :: ab_I a :: st) σ Q ↔ ab_Run X 288 813 (f, cl, sl) L (ab_I (ab_w32 (a + b)) :: st) σ Q := ab_r_iadd kc_L_law dL_law_812
theorem rL_law_813 : ab_Run X 288 813 (f, cl, sl) L (ab_I i :: ab_R a :: st) σ Q ↔ (a = -1 ∧ 0 ≤ i ∧ i < X.1) ∧ ab_Run X 288 814 (f, cl, sl) L (ab_I (X.2 i) :: st) σ Q := ab_r_ialoadX rfl kc_L_law dL_law_813
theorem rL_law_814 : ab_Run X 288 814 (f, cl, sl) [ab_R z, l1, l2, l3, l4, l5, l6] st σ Q ↔ z ≠ 0 ∧ ab_Run X 288 815 (f, cl, sl) [ab_R z, l1, l2, l3, l4, l5, l6] (ab_R z :: st) σ Q := ab_r_aload_n rfl kc_L_law dL_law_814
theorem rL_law_815 : ab_Run X 288 815 (f, cl, sl) [l0, l1, l2, l3, ab_I z, l5, l6] st σ Q ↔ ab_Run X 288 817 (f, cl, sl) [l0, l1, l2, l3, ab_I z, l5, l6] (ab_I z :: st) σ Q := ab_r_iload rfl kc_L_law dL_law_815
theorem rL_law_817 : ab_Run X 288 817 (f, cl, sl) L st σ Q ↔ ab_Run X 288 819 (f, cl, sl) L (ab_I 6 :: st) σ Q := ab_r_bipush (by decide) kc_L_law dL_law_817
theorem rL_law_819 : ab_Run X 288 819 (f, cl, sl) L (ab_I b :: ab_I a :: st) σ Q ↔ ab_Run X 288 820 (f, cl, sl) L (ab_I (ab_w32 (a + b)) :: st) σ Q := ab_r_iadd kc_L_law dL_law_819
theorem rL_law_820 : ab_Run X 288 820 (f, cl, sl) L (ab_I i :: ab_R a :: st) σ Q ↔ (a = -1 ∧ 0 ≤ i ∧ i < X.1) ∧ ab_Run X 288 821 (f, cl, sl) L (ab_I (X.2 i) :: st) σ Q := ab_r_ialoadX rfl kc_L_law dL_law_820
theorem rL_law_821 (h : 5 + 1 ≤ f ∧ 0 ≤ cl ∧ 0 ≤ sl) : ab_Run X 288 821 (f, cl, sl) L (ab_I x6 :: ab_I x5 :: ab_I x4 :: ab_I x3 :: ab_I x2 :: ab_I x1 :: ab_R a :: st) σ Q ↔ ((ab_sh σ a).1 = 14 ∧ ab_cats st ≤ 8) ∧ ab_Do X 225 [ab_R a, ab_I x1, ab_I x2, ab_I x3, ab_I x4, ab_I x5, ab_I x6] σ (fun r σ' => ab_Run X 288 824 (f, cl, sl) L (ab_psh r st) σ' Q) := ab_r_callV (w := [ab_I x6, ab_I x5, ab_I x4, ab_I x3, ab_I x2, ab_I x1]) (as := [ab_I x1, ab_I x2, ab_I x3, ab_I x4, ab_I x5, ab_I x6]) (b1 := (5, 0, 0)) 0 (Or.inl rfl) (by decide) ko_L_law qM_14_69 (by decide) rfl rfl rfl rfl rfl h (Nat.le_of_ble_eq_true rfl) kc_L_law dL_law_821
theorem rL_law_824 : ab_Run X 288 824 (f, cl, sl) L (ab_I b :: ab_I a :: st) σ Q ↔ (a = b → ab_Run X 288 2374 (f, cl, sl) L st σ Q) ∧ (¬ (a = b) → ab_Run X 288 827 (f, cl, sl) L st σ Q) := ab_r_icmp_eq rfl kc_L_law dL_law_824
theorem rL_law_827 : ab_Run X 288 827 (f, cl, sl) L st σ Q ↔ ab_Run X 288 828 (f, cl, sl) L (ab_I 0 :: st) σ Q := ab_r_iconst (by decide) kc_L_law dL_law_827
theorem rL_law_828 : ab_Run X 288 828 (f, cl, sl) L [ab_I v] σ Q ↔ (v = 0 ∨ v = 1) ∧ Q (some (ab_I v)) σ := ab_r_ireturnZ rfl kc_L_law dL_law_828
theorem rL_law_829 : ab_Run X 288 829 (f, cl, sl) [l0, ab_R z, l2, l3, l4, l5, l6] st σ Q ↔ z ≠ 0 ∧ ab_Run X 288 830 (f, cl, sl) [l0, ab_R z, l2, l3, l4, l5, l6] (ab_R z :: st) σ Q := ab_r_aload_n rfl kc_L_law dL_law_829
theorem rL_law_830 : ab_Run X 288 830 (f, cl, sl) [ab_R z, l1, l2, l3, l4, l5, l6] st σ Q ↔ z ≠ 0 ∧ ab_Run X 288 831 (f, cl, sl) [ab_R z, l1, l2, l3, l4, l5, l6] (ab_R z :: st) σ Q := ab_r_aload_n rfl kc_L_law dL_law_830
theorem rL_law_831 : ab_Run X 288 831 (f, cl, sl) [l0, l1, l2, l3, ab_I z, l5, l6] st σ Q ↔ ab_Run X 288 833 (f, cl, sl) [l0, l1, l2, l3, ab_I z, l5, l6] (ab_I z :: st) σ Q := ab_r_iload rfl kc_L_law dL_law_831
theorem rL_law_833 : ab_Run X 288 833 (f, cl, sl) L st σ Q ↔ ab_Run X 288 834 (f, cl, sl) L (ab_I 1 :: st) σ Q := ab_r_iconst (by decide) kc_L_law dL_law_833
theorem rL_law_834 : ab_Run X 288 834 (f, cl, sl) L (ab_I b :: ab_I a :: st) σ Q ↔ ab_Run X 288 835 (f, cl, sl) L (ab_I (ab_w32 (a + b)) :: st) σ Q := ab_r_iadd kc_L_law dL_law_834
theorem rL_law_835 : ab_Run X 288 835 (f, cl, sl) L (ab_I i :: ab_R a :: st) σ Q ↔ (a = -1 ∧ 0 ≤ i ∧ i < X.1) ∧ ab_Run X 288 836 (f, cl, sl) L (ab_I (X.2 i) :: st) σ Q := ab_r_ialoadX rfl kc_L_law dL_law_835
theorem rL_law_836 : ab_Run X 288 836 (f, cl, sl) [ab_R z, l1, l2, l3, l4, l5, l6] st σ Q ↔ z ≠ 0 ∧ ab_Run X 288 837 (f, cl, sl) [ab_R z, l1, l2, l3, l4, l5, l6] (ab_R z :: st) σ Q := ab_r_aload_n rfl kc_L_law dL_law_836
theorem rL_law_837 : ab_Run X 288 837 (f, cl, sl) [l0, l1, l2, l3, ab_I z, l5, l6] st σ Q ↔ ab_Run X 288 839 (f, cl, sl) [l0, l1, l2, l3, ab_I z, l5, l6] (ab_I z :: st) σ Q := ab_r_iload rfl kc_L_law dL_law_837
theorem rL_law_839 : ab_Run X 288 839 (f, cl, sl) L st σ Q ↔ ab_Run X 288 840 (f, cl, sl) L (ab_I 2 :: st) σ Q := ab_r_iconst (by decide) kc_L_law dL_law_839
theorem rL_law_840 : ab_Run X 288 840 (f, cl, sl) L (ab_I b :: ab_I a :: st) σ Q ↔ ab_Run X 288 841 (f, cl, sl) L (ab_I (ab_w32 (a + b)) :: st) σ Q := ab_r_iadd kc_L_law dL_law_840
theorem rL_law_841 : ab_Run X 288 841 (f, cl, sl) L (ab_I i :: ab_R a :: st) σ Q ↔ (a = -1 ∧ 0 ≤ i ∧ i < X.1) ∧ ab_Run X 288 842 (f, cl, sl) L (ab_I (X.2 i) :: st) σ Q := ab_r_ialoadX rfl kc_L_law dL_law_841
theorem rL_law_842 : ab_Run X 288 842 (f, cl, sl) [ab_R z, l1, l2, l3, l4, l5, l6] st σ Q ↔ z ≠ 0 ∧ ab_Run X 288 843 (f, cl, sl) [ab_R z, l1, l2, l3, l4, l5, l6] (ab_R z :: st) σ Q := ab_r_aload_n rfl kc_L_law dL_law_842
theorem rL_law_843 : ab_Run X 288 843 (f, cl, sl) [l0, l1, l2, l3, ab_I z, l5, l6] st σ Q ↔ ab_Run X 288 845 (f, cl, sl) [l0, l1, l2, l3, ab_I z, l5, l6] (ab_I z :: st) σ Q := ab_r_iload rfl kc_L_law dL_law_843
theorem rL_law_845 : ab_Run X 288 845 (f, cl, sl) L st σ Q ↔ ab_Run X 288 846 (f, cl, sl) L (ab_I 3 :: st) σ Q := ab_r_iconst (by decide) kc_L_law dL_law_845
theorem rL_law_846 : ab_Run X 288 846 (f, cl, sl) L (ab_I b :: ab_I a :: st) σ Q ↔ ab_Run X 288 847 (f, cl, sl) L (ab_I (ab_w32 (a + b)) :: st) σ Q := ab_r_iadd kc_L_law dL_law_846
theorem rL_law_847 : ab_Run X 288 847 (f, cl, sl) L (ab_I i :: ab_R a :: st) σ Q ↔ (a = -1 ∧ 0 ≤ i ∧ i < X.1) ∧ ab_Run X 288 848 (f, cl, sl) L (ab_I (X.2 i) :: st) σ Q := ab_r_ialoadX rfl kc_L_law dL_law_847
theorem rL_law_848 : ab_Run X 288 848 (f, cl, sl) [ab_R z, l1, l2, l3, l4, l5, l6] st σ Q ↔ z ≠ 0 ∧ ab_Run X 288 849 (f, cl, sl) [ab_R z, l1, l2, l3, l4, l5, l6] (ab_R z :: st) σ Q := ab_r_aload_n rfl kc_L_law dL_law_848
theorem rL_law_849 : ab_Run X 288 849 (f, cl, sl) [l0, l1, l2, l3, ab_I z, l5, l6] st σ Q ↔ ab_Run X 288 851 (f, cl, sl) [l0, l1, l2, l3, ab_I z, l5, l6] (ab_I z :: st) σ Q := ab_r_iload rfl kc_L_law dL_law_849
theorem rL_law_851 : ab_Run X 288 851 (f, cl, sl) L st σ Q ↔ ab_Run X 288 852 (f, cl, sl) L (ab_I 4 :: st) σ Q := ab_r_iconst (by decide) kc_L_law dL_law_851
theorem rL_law_852 : ab_Run X 288 852 (f, cl, sl) L (ab_I b :: ab_I a :: st) σ Q ↔ ab_Run X 288 853 (f, cl, sl) L (ab_I (ab_w32 (a + b)) :: st) σ Q := ab_r_iadd kc_L_law dL_law_852
theorem rL_law_853 : ab_Run X 288 853 (f, cl, sl) L (ab_I i :: ab_R a :: st) σ Q ↔ (a = -1 ∧ 0 ≤ i ∧ i < X.1) ∧ ab_Run X 288 854 (f, cl, sl) L (ab_I (X.2 i) :: st) σ Q := ab_r_ialoadX rfl kc_L_law dL_law_853
theorem rL_law_854 : ab_Run X 288 854 (f, cl, sl) [ab_R z, l1, l2, l3, l4, l5, l6] st σ Q ↔ z ≠ 0 ∧ ab_Run X 288 855 (f, cl, sl) [ab_R z, l1, l2, l3, l4, l5, l6] (ab_R z :: st) σ Q := ab_r_aload_n rfl kc_L_law dL_law_854
theorem rL_law_855 : ab_Run X 288 855 (f, cl, sl) [l0, l1, l2, l3, ab_I z, l5, l6] st σ Q ↔ ab_Run X 288 857 (f, cl, sl) [l0, l1, l2, l3, ab_I z, l5, l6] (ab_I z :: st) σ Q := ab_r_iload rfl kc_L_law dL_law_855
theorem rL_law_857 : ab_Run X 288 857 (f, cl, sl) L st σ Q ↔ ab_Run X 288 858 (f, cl, sl) L (ab_I 5 :: st) σ Q := ab_r_iconst (by decide) kc_L_law dL_law_857
theorem rL_law_858 : ab_Run X 288 858 (f, cl, sl) L (ab_I b :: ab_I a :: st) σ Q ↔ ab_Run X 288 859 (f, cl, sl) L (ab_I (ab_w32 (a + b)) :: st) σ Q := ab_r_iadd kc_L_law dL_law_858
theorem rL_law_859 : ab_Run X 288 859 (f, cl, sl) L (ab_I i :: ab_R a :: st) σ Q ↔ (a = -1 ∧ 0 ≤ i ∧ i < X.1) ∧ ab_Run X 288 860 (f, cl, sl) L (ab_I (X.2 i) :: st) σ Q := ab_r_ialoadX rfl kc_L_law dL_law_859
theorem rL_law_860 : ab_Run X 288 860 (f, cl, sl) [ab_R z, l1, l2, l3, l4, l5, l6] st σ Q ↔ z ≠ 0 ∧ ab_Run X 288 861 (f, cl, sl) [ab_R z, l1, l2, l3, l4, l5, l6] (ab_R z :: st) σ Q := ab_r_aload_n rfl kc_L_law dL_law_860
theorem rL_law_861 : ab_Run X 288 861 (f, cl, sl) [l0, l1, l2, l3, ab_I z, l5, l6] st σ Q ↔ ab_Run X 288 863 (f, cl, sl) [l0, l1, l2, l3, ab_I z, l5, l6] (ab_I z :: st) σ Q := ab_r_iload rfl kc_L_law dL_law_861
theorem rL_law_863 : ab_Run X 288 863 (f, cl, sl) L st σ Q ↔ ab_Run X 288 865 (f, cl, sl) L (ab_I 6 :: st) σ Q := ab_r_bipush (by decide) kc_L_law dL_law_863
theorem rL_law_865 : ab_Run X 288 865 (f, cl, sl) L (ab_I b :: ab_I a :: st) σ Q ↔ ab_Run X 288 866 (f, cl, sl) L (ab_I (ab_w32 (a + b)) :: st) σ Q := ab_r_iadd kc_L_law dL_law_865
theorem rL_law_866 : ab_Run X 288 866 (f, cl, sl) L (ab_I i :: ab_R a :: st) σ Q ↔ (a = -1 ∧ 0 ≤ i ∧ i < X.1) ∧ ab_Run X 288 867 (f, cl, sl) L (ab_I (X.2 i) :: st) σ Q := ab_r_ialoadX rfl kc_L_law dL_law_866
theorem rL_law_867 : ab_Run X 288 867 (f, cl, sl) [ab_R z, l1, l2, l3, l4, l5, l6] st σ Q ↔ z ≠ 0 ∧ ab_Run X 288 868 (f, cl, sl) [ab_R z, l1, l2, l3, l4, l5, l6] (ab_R z :: st) σ Q := ab_r_aload_n rfl kc_L_law dL_law_867
theorem rL_law_868 : ab_Run X 288 868 (f, cl, sl) [l0, l1, l2, l3, ab_I z, l5, l6] st σ Q ↔ ab_Run X 288 870 (f, cl, sl) [l0, l1, l2, l3, ab_I z, l5, l6] (ab_I z :: st) σ Q := ab_r_iload rfl kc_L_law dL_law_868
theorem rL_law_870 : ab_Run X 288 870 (f, cl, sl) L st σ Q ↔ ab_Run X 288 872 (f, cl, sl) L (ab_I 7 :: st) σ Q := ab_r_bipush (by decide) kc_L_law dL_law_870
theorem rL_law_872 : ab_Run X 288 872 (f, cl, sl) L (ab_I b :: ab_I a :: st) σ Q ↔ ab_Run X 288 873 (f, cl, sl) L (ab_I (ab_w32 (a + b)) :: st) σ Q := ab_r_iadd kc_L_law dL_law_872
theorem rL_law_873 : ab_Run X 288 873 (f, cl, sl) L (ab_I i :: ab_R a :: st) σ Q ↔ (a = -1 ∧ 0 ≤ i ∧ i < X.1) ∧ ab_Run X 288 874 (f, cl, sl) L (ab_I (X.2 i) :: st) σ Q := ab_r_ialoadX rfl kc_L_law dL_law_873
theorem rL_law_874 : ab_Run X 288 874 (f, cl, sl) [ab_R z, l1, l2, l3, l4, l5, l6] st σ Q ↔ z ≠ 0 ∧ ab_Run X 288 875 (f, cl, sl) [ab_R z, l1, l2, l3, l4, l5, l6] (ab_R z :: st) σ Q := ab_r_aload_n rfl kc_L_law dL_law_874
theorem rL_law_875 : ab_Run X 288 875 (f, cl, sl) [l0, l1, l2, l3, ab_I z, l5, l6] st σ Q ↔ ab_Run X 288 877 (f, cl, sl) [l0, l1, l2, l3, ab_I z, l5, l6] (ab_I z :: st) σ Q := ab_r_iload rfl kc_L_law dL_law_875
theorem rL_law_877 : ab_Run X 288 877 (f, cl, sl) L st σ Q ↔ ab_Run X 288 879 (f, cl, sl) L (ab_I 8 :: st) σ Q := ab_r_bipush (by decide) kc_L_law dL_law_877
theorem rL_law_879 : ab_Run X 288 879 (f, cl, sl) L (ab_I b :: ab_I a :: st) σ Q ↔ ab_Run X 288 880 (f, cl, sl) L (ab_I (ab_w32 (a + b)) :: st) σ Q := ab_r_iadd kc_L_law dL_law_879
theorem rL_law_880 : ab_Run X 288 880 (f, cl, sl) L (ab_I i :: ab_R a :: st) σ Q ↔ (a = -1 ∧ 0 ≤ i ∧ i < X.1) ∧ ab_Run X 288 881 (f, cl, sl) L (ab_I (X.2 i) :: st) σ Q := ab_r_ialoadX rfl kc_L_law dL_law_880
theorem rL_law_881 (h : 4 + 1 ≤ f ∧ 0 ≤ cl ∧ 0 ≤ sl) : ab_Run X 288 881 (f, cl, sl) L (ab_I x8 :: ab_I x7 :: ab_I x6 :: ab_I x5 :: ab_I x4 :: ab_I x3 :: ab_I x2 :: ab_I x1 :: ab_R a :: st) σ Q ↔ ((ab_sh σ a).1 = 12 ∧ ab_cats st ≤ 8) ∧ ab_Do X 91 [ab_R a, ab_I x1, ab_I x2, ab_I x3, ab_I x4, ab_I x5, ab_I x6, ab_I x7, ab_I x8] σ (fun r σ' => ab_Run X 288 884 (f, cl, sl) L (ab_psh r st) σ' Q) := ab_r_callV (w := [ab_I x8, ab_I x7, ab_I x6, ab_I x5, ab_I x4, ab_I x3, ab_I x2, ab_I x1]) (as := [ab_I x1, ab_I x2, ab_I x3, ab_I x4, ab_I x5, ab_I x6, ab_I x7, ab_I x8]) (b1 := (4, 0, 0)) 0 (Or.inl rfl) (by decide) ko_L_law qM_14_70 (by decide) rfl rfl rfl rfl rfl h (Nat.le_of_ble_eq_true rfl) kc_L_law dL_law_881
theorem rL_law_884 : ab_Run X 288 884 (f, cl, sl) [l0, l1, ab_R z, l3, l4, l5, l6] st σ Q ↔ z ≠ 0 ∧ ab_Run X 288 885 (f, cl, sl) [l0, l1, ab_R z, l3, l4, l5, l6] (ab_R z :: st) σ Q := ab_r_aload_n rfl kc_L_law dL_law_884
theorem rL_law_885 : ab_Run X 288 885 (f, cl, sl) [ab_R z, l1, l2, l3, l4, l5, l6] st σ Q ↔ z ≠ 0 ∧ ab_Run X 288 886 (f, cl, sl) [ab_R z, l1, l2, l3, l4, l5, l6] (ab_R z :: st) σ Q := ab_r_aload_n rfl kc_L_law dL_law_885
theorem rL_law_886 : ab_Run X 288 886 (f, cl, sl) [l0, l1, l2, l3, ab_I z, l5, l6] st σ Q ↔ ab_Run X 288 888 (f, cl, sl) [l0, l1, l2, l3, ab_I z, l5, l6] (ab_I z :: st) σ Q := ab_r_iload rfl kc_L_law dL_law_886
theorem rL_law_888 : ab_Run X 288 888 (f, cl, sl) L st σ Q ↔ ab_Run X 288 889 (f, cl, sl) L (ab_I 1 :: st) σ Q := ab_r_iconst (by decide) kc_L_law dL_law_888
theorem rL_law_889 : ab_Run X 288 889 (f, cl, sl) L (ab_I b :: ab_I a :: st) σ Q ↔ ab_Run X 288 890 (f, cl, sl) L (ab_I (ab_w32 (a + b)) :: st) σ Q := ab_r_iadd kc_L_law dL_law_889
theorem rL_law_890 : ab_Run X 288 890 (f, cl, sl) L (ab_I i :: ab_R a :: st) σ Q ↔ (a = -1 ∧ 0 ≤ i ∧ i < X.1) ∧ ab_Run X 288 891 (f, cl, sl) L (ab_I (X.2 i) :: st) σ Q := ab_r_ialoadX rfl kc_L_law dL_law_890
theorem rL_law_891 : ab_Run X 288 891 (f, cl, sl) [ab_R z, l1, l2, l3, l4, l5, l6] st σ Q ↔ z ≠ 0 ∧ ab_Run X 288 892 (f, cl, sl) [ab_R z, l1, l2, l3, l4, l5, l6] (ab_R z :: st) σ Q := ab_r_aload_n rfl kc_L_law dL_law_891
theorem rL_law_892 : ab_Run X 288 892 (f, cl, sl) [l0, l1, l2, l3, ab_I z, l5, l6] st σ Q ↔ ab_Run X 288 894 (f, cl, sl) [l0, l1, l2, l3, ab_I z, l5, l6] (ab_I z :: st) σ Q := ab_r_iload rfl kc_L_law dL_law_892
theorem rL_law_894 : ab_Run X 288 894 (f, cl, sl) L st σ Q ↔ ab_Run X 288 895 (f, cl, sl) L (ab_I 2 :: st) σ Q := ab_r_iconst (by decide) kc_L_law dL_law_894
theorem rL_law_895 : ab_Run X 288 895 (f, cl, sl) L (ab_I b :: ab_I a :: st) σ Q ↔ ab_Run X 288 896 (f, cl, sl) L (ab_I (ab_w32 (a + b)) :: st) σ Q := ab_r_iadd kc_L_law dL_law_895
theorem rL_law_896 : ab_Run X 288 896 (f, cl, sl) L (ab_I i :: ab_R a :: st) σ Q ↔ (a = -1 ∧ 0 ≤ i ∧ i < X.1) ∧ ab_Run X 288 897 (f, cl, sl) L (ab_I (X.2 i) :: st) σ Q := ab_r_ialoadX rfl kc_L_law dL_law_896
theorem rL_law_897 : ab_Run X 288 897 (f, cl, sl) [ab_R z, l1, l2, l3, l4, l5, l6] st σ Q ↔ z ≠ 0 ∧ ab_Run X 288 898 (f, cl, sl) [ab_R z, l1, l2, l3, l4, l5, l6] (ab_R z :: st) σ Q := ab_r_aload_n rfl kc_L_law dL_law_897
end
