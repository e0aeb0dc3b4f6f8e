theorem dL_goes_501 : decode cL_goes 501 = .ok (.iaload, 1) := by decide +kernel
theorem dL_goes_502 : decode cL_goes 502 = .ok (.iconst 1, 1) := by decide +kernel
theorem dL_goes_503 : decode cL_goes 503 = .ok (.iadd, 1) := by decide +kernel
theorem dL_goes_504 : decode cL_goes 504 = .ok (.iastore, 1) := by decide +kernel
theorem dL_goes_505 : decode cL_goes 505 = .ok (.aload_n 0, 1) := by decide +kernel
theorem dL_goes_506 : decode cL_goes 506 = .ok (.iconst 1, 1) := by decide +kernel
theorem dL_goes_507 : decode cL_goes 507 = .ok (.iload 11, 2) := by decide +kernel
theorem dL_goes_509 : decode cL_goes 509 = .ok (.invokestatic 109, 3) := by decide +kernel
theorem dL_goes_512 : decode cL_goes 512 = .ok (.iload 13, 2) := by decide +kernel
theorem dL_goes_514 : decode cL_goes 514 = .ok (.if_icmp .ne 7, 3) := by decide +kernel
theorem dL_goes_517 : decode cL_goes 517 = .ok (.iconst 1, 1) := by decide +kernel
theorem dL_goes_518 : decode cL_goes 518 = .ok (.goto 4, 3) := by decide +kernel
theorem dL_goes_521 : decode cL_goes 521 = .ok (.iconst 0, 1) := by decide +kernel
theorem dL_goes_522 : decode cL_goes 522 = .ok (.ireturn, 1) := by decide +kernel
theorem dL_goes_523 : decode cL_goes 523 = .ok (.iload_n 2, 1) := by decide +kernel
theorem dL_goes_524 : decode cL_goes 524 = .ok (.iconst 4, 1) := by decide +kernel
theorem dL_goes_525 : decode cL_goes 525 = .ok (.ishr, 1) := by decide +kernel
theorem dL_goes_526 : decode cL_goes 526 = .ok (.aload_n 3, 1) := by decide +kernel
theorem dL_goes_527 : decode cL_goes 527 = .ok (.iconst 1, 1) := by decide +kernel
theorem dL_goes_528 : decode cL_goes 528 = .ok (.iaload, 1) := by decide +kernel
theorem dL_goes_529 : decode cL_goes 529 = .ok (.iconst 1, 1) := by decide +kernel
theorem dL_goes_530 : decode cL_goes 530 = .ok (.iadd, 1) := by decide +kernel
theorem dL_goes_531 : decode cL_goes 531 = .ok (.invokestatic 93, 3) := by decide +kernel
theorem dL_goes_534 : decode cL_goes 534 = .ok (.iload_n 2, 1) := by decide +kernel
theorem dL_goes_535 : decode cL_goes 535 = .ok (.bipush 11, 2) := by decide +kernel
theorem dL_goes_537 : decode cL_goes 537 = .ok (.ishr, 1) := by decide +kernel
theorem dL_goes_538 : decode cL_goes 538 = .ok (.bipush 19, 2) := by decide +kernel
theorem dL_goes_540 : decode cL_goes 540 = .ok (.invokestatic 93, 3) := by decide +kernel
theorem dL_goes_543 : decode cL_goes 543 = .ok (.ifCond .ne 7, 3) := by decide +kernel
theorem dL_goes_546 : decode cL_goes 546 = .ok (.iconst 1, 1) := by decide +kernel
theorem dL_goes_547 : decode cL_goes 547 = .ok (.goto 4, 3) := by decide +kernel
theorem dL_goes_550 : decode cL_goes 550 = .ok (.iconst 0, 1) := by decide +kernel
theorem dL_goes_551 : decode cL_goes 551 = .ok (.isub, 1) := by decide +kernel
theorem dL_goes_552 : decode cL_goes 552 = .ok (.istore 13, 2) := by decide +kernel
theorem dL_goes_554 : decode cL_goes 554 = .ok (.iload 13, 2) := by decide +kernel
theorem dL_goes_556 : decode cL_goes 556 = .ok (.ifCond .lt 15, 3) := by decide +kernel
theorem dL_goes_559 : decode cL_goes 559 = .ok (.iload 13, 2) := by decide +kernel
theorem dL_goes_561 : decode cL_goes 561 = .ok (.aload_n 3, 1) := by decide +kernel
theorem dL_goes_562 : decode cL_goes 562 = .ok (.iconst 1, 1) := by decide +kernel
theorem dL_goes_563 : decode cL_goes 563 = .ok (.iaload, 1) := by decide +kernel
theorem dL_goes_564 : decode cL_goes 564 = .ok (.if_icmp .ge 7, 3) := by decide +kernel
theorem dL_goes_567 : decode cL_goes 567 = .ok (.iconst 1, 1) := by decide +kernel
theorem dL_goes_568 : decode cL_goes 568 = .ok (.goto 4, 3) := by decide +kernel
theorem dL_goes_571 : decode cL_goes 571 = .ok (.iconst 0, 1) := by decide +kernel
theorem dL_goes_572 : decode cL_goes 572 = .ok (.istore 14, 2) := by decide +kernel
theorem dL_goes_574 : decode cL_goes 574 = .ok (.iload 14, 2) := by decide +kernel
theorem dL_goes_576 : decode cL_goes 576 = .ok (.ifCond .eq 17, 3) := by decide +kernel
theorem dL_goes_579 : decode cL_goes 579 = .ok (.aload 5, 2) := by decide +kernel
theorem dL_goes_581 : decode cL_goes 581 = .ok (.iconst 4, 1) := by decide +kernel
theorem dL_goes_582 : decode cL_goes 582 = .ok (.iload 13, 2) := by decide +kernel
theorem dL_goes_584 : decode cL_goes 584 = .ok (.iadd, 1) := by decide +kernel
theorem dL_goes_585 : decode cL_goes 585 = .ok (.iaload, 1) := by decide +kernel
theorem dL_goes_586 : decode cL_goes 586 = .ok (.ifCond .ne 7, 3) := by decide +kernel
theorem dL_goes_589 : decode cL_goes 589 = .ok (.iconst 1, 1) := by decide +kernel
theorem dL_goes_590 : decode cL_goes 590 = .ok (.goto 4, 3) := by decide +kernel
theorem dL_goes_593 : decode cL_goes 593 = .ok (.iconst 0, 1) := by decide +kernel
theorem dL_goes_594 : decode cL_goes 594 = .ok (.istore 15, 2) := by decide +kernel
theorem dL_goes_596 : decode cL_goes 596 = .ok (.iload_n 1, 1) := by decide +kernel
theorem dL_goes_597 : decode cL_goes 597 = .ok (.iconst 3, 1) := by decide +kernel
theorem dL_goes_598 : decode cL_goes 598 = .ok (.if_icmp .ne 86, 3) := by decide +kernel
theorem dL_goes_601 : decode cL_goes 601 = .ok (.iload 14, 2) := by decide +kernel
theorem dL_goes_603 : decode cL_goes 603 = .ok (.ifCond .eq 11, 3) := by decide +kernel
theorem dL_goes_606 : decode cL_goes 606 = .ok (.aload 5, 2) := by decide +kernel
theorem dL_goes_608 : decode cL_goes 608 = .ok (.iload 13, 2) := by decide +kernel
theorem dL_goes_610 : decode cL_goes 610 = .ok (.iaload, 1) := by decide +kernel
theorem dL_goes_611 : decode cL_goes 611 = .ok (.goto 4, 3) := by decide +kernel
theorem dL_goes_614 : decode cL_goes 614 = .ok (.iconst 0, 1) := by decide +kernel
theorem dL_goes_615 : decode cL_goes 615 = .ok (.istore 16, 2) := by decide +kernel
theorem dL_goes_617 : decode cL_goes 617 = .ok (.iload 15, 2) := by decide +kernel
theorem dL_goes_619 : decode cL_goes 619 = .ok (.ifCond .eq 15, 3) := by decide +kernel
theorem dL_goes_622 : decode cL_goes 622 = .ok (.iload 12, 2) := by decide +kernel
theorem dL_goes_624 : decode cL_goes 624 = .ok (.ifCond .eq 10, 3) := by decide +kernel
theorem dL_goes_627 : decode cL_goes 627 = .ok (.aload 5, 2) := by decide +kernel
theorem dL_goes_629 : decode cL_goes 629 = .ok (.iload 13, 2) := by decide +kernel
theorem dL_goes_631 : decode cL_goes 631 = .ok (.iload 11, 2) := by decide +kernel
theorem dL_goes_633 : decode cL_goes 633 = .ok (.iastore, 1) := by decide +kernel
theorem dL_goes_634 : decode cL_goes 634 = .ok (.aload_n 0, 1) := by decide +kernel
theorem dL_goes_635 : decode cL_goes 635 = .ok (.iconst 0, 1) := by decide +kernel
theorem dL_goes_636 : decode cL_goes 636 = .ok (.iload 13, 2) := by decide +kernel
theorem dL_goes_638 : decode cL_goes 638 = .ok (.iload 11, 2) := by decide +kernel
theorem dL_goes_640 : decode cL_goes 640 = .ok (.invokestatic 113, 3) := by decide +kernel
theorem dL_goes_643 : decode cL_goes 643 = .ok (.iload 14, 2) := by decide +kernel
theorem dL_goes_645 : decode cL_goes 645 = .ok (.ifCond .ne 8, 3) := by decide +kernel
theorem dL_goes_648 : decode cL_goes 648 = .ok (.bipush (-101), 2) := by decide +kernel
theorem dL_goes_650 : decode cL_goes 650 = .ok (.goto 25, 3) := by decide +kernel
theorem dL_goes_653 : decode cL_goes 653 = .ok (.iload 12, 2) := by decide +kernel
theorem dL_goes_655 : decode cL_goes 655 = .ok (.ifCond .ne 8, 3) := by decide +kernel
theorem dL_goes_658 : decode cL_goes 658 = .ok (.bipush (-102), 2) := by decide +kernel
theorem dL_goes_660 : decode cL_goes 660 = .ok (.goto 15, 3) := by decide +kernel
theorem dL_goes_663 : decode cL_goes 663 = .ok (.iload 15, 2) := by decide +kernel
theorem dL_goes_665 : decode cL_goes 665 = .ok (.ifCond .eq 8, 3) := by decide +kernel
theorem dL_goes_668 : decode cL_goes 668 = .ok (.iload 16, 2) := by decide +kernel
theorem dL_goes_670 : decode cL_goes 670 = .ok (.goto 5, 3) := by decide +kernel
theorem dL_goes_673 : decode cL_goes 673 = .ok (.bipush (-103), 2) := by decide +kernel
theorem dL_goes_675 : decode cL_goes 675 = .ok (.if_icmp .ne 7, 3) := by decide +kernel
theorem dL_goes_678 : decode cL_goes 678 = .ok (.iconst 1, 1) := by decide +kernel
theorem dL_goes_679 : decode cL_goes 679 = .ok (.goto 4, 3) := by decide +kernel
theorem dL_goes_682 : decode cL_goes 682 = .ok (.iconst 0, 1) := by decide +kernel
theorem dL_goes_683 : decode cL_goes 683 = .ok (.ireturn, 1) := by decide +kernel
theorem dL_goes_684 : decode cL_goes 684 = .ok (.iload_n 1, 1) := by decide +kernel
theorem dL_goes_685 : decode cL_goes 685 = .ok (.iconst 4, 1) := by decide +kernel
theorem dL_goes_686 : decode cL_goes 686 = .ok (.if_icmp .ne 91, 3) := by decide +kernel
theorem dL_goes_689 : decode cL_goes 689 = .ok (.iload 14, 2) := by decide +kernel
theorem dL_goes_691 : decode cL_goes 691 = .ok (.ifCond .eq 14, 3) := by decide +kernel
theorem dL_goes_694 : decode cL_goes 694 = .ok (.aload 5, 2) := by decide +kernel
theorem dL_goes_696 : decode cL_goes 696 = .ok (.bipush 8, 2) := by decide +kernel
theorem dL_goes_698 : decode cL_goes 698 = .ok (.iload 13, 2) := by decide +kernel
theorem dL_goes_700 : decode cL_goes 700 = .ok (.iadd, 1) := by decide +kernel
theorem dL_goes_701 : decode cL_goes 701 = .ok (.iaload, 1) := by decide +kernel
theorem dL_goes_702 : decode cL_goes 702 = .ok (.goto 4, 3) := by decide +kernel
theorem dL_goes_705 : decode cL_goes 705 = .ok (.iconst 0, 1) := by decide +kernel
theorem dL_goes_706 : decode cL_goes 706 = .ok (.istore 16, 2) := by decide +kernel
theorem dL_goes_708 : decode cL_goes 708 = .ok (.iload 15, 2) := by decide +kernel
theorem dL_goes_710 : decode cL_goes 710 = .ok (.ifCond .eq 30, 3) := by decide +kernel
theorem dL_goes_713 : decode cL_goes 713 = .ok (.aload 5, 2) := by decide +kernel
theorem dL_goes_715 : decode cL_goes 715 = .ok (.iconst 4, 1) := by decide +kernel
theorem dL_goes_716 : decode cL_goes 716 = .ok (.iload 13, 2) := by decide +kernel
theorem dL_goes_718 : decode cL_goes 718 = .ok (.iadd, 1) := by decide +kernel
theorem dL_goes_719 : decode cL_goes 719 = .ok (.iconst 1, 1) := by decide +kernel
theorem dL_goes_720 : decode cL_goes 720 = .ok (.iastore, 1) := by decide +kernel
theorem dL_goes_721 : decode cL_goes 721 = .ok (.aload 5, 2) := by decide +kernel
theorem dL_goes_723 : decode cL_goes 723 = .ok (.bipush 24, 2) := by decide +kernel
theorem dL_goes_725 : decode cL_goes 725 = .ok (.iload 13, 2) := by decide +kernel
theorem dL_goes_727 : decode cL_goes 727 = .ok (.iadd, 1) := by decide +kernel
theorem dL_goes_728 : decode cL_goes 728 = .ok (.iload 16, 2) := by decide +kernel
theorem dL_goes_730 : decode cL_goes 730 = .ok (.iastore, 1) := by decide +kernel
theorem dL_goes_731 : decode cL_goes 731 = .ok (.aload 5, 2) := by decide +kernel
theorem dL_goes_733 : decode cL_goes 733 = .ok (.bipush 8, 2) := by decide +kernel
theorem dL_goes_735 : decode cL_goes 735 = .ok (.iload 13, 2) := by decide +kernel
theorem dL_goes_737 : decode cL_goes 737 = .ok (.iadd, 1) := by decide +kernel
theorem dL_goes_738 : decode cL_goes 738 = .ok (.iconst 0, 1) := by decide +kernel
theorem dL_goes_739 : decode cL_goes 739 = .ok (.iastore, 1) := by decide +kernel
theorem dL_goes_740 : decode cL_goes 740 = .ok (.aload_n 0, 1) := by decide +kernel
theorem dL_goes_741 : decode cL_goes 741 = .ok (.iload 13, 2) := by decide +kernel
theorem dL_goes_743 : decode cL_goes 743 = .ok (.invokestatic 117, 3) := by decide +kernel
theorem dL_goes_746 : decode cL_goes 746 = .ok (.iload 14, 2) := by decide +kernel
theorem dL_goes_748 : decode cL_goes 748 = .ok (.ifCond .ne 8, 3) := by decide +kernel
theorem dL_goes_751 : decode cL_goes 751 = .ok (.bipush (-101), 2) := by decide +kernel
theorem dL_goes_753 : decode cL_goes 753 = .ok (.goto 15, 3) := by decide +kernel
theorem dL_goes_756 : decode cL_goes 756 = .ok (.iload 15, 2) := by decide +kernel
theorem dL_goes_758 : decode cL_goes 758 = .ok (.ifCond .eq 8, 3) := by decide +kernel
theorem dL_goes_761 : decode cL_goes 761 = .ok (.iload 16, 2) := by decide +kernel
theorem dL_goes_763 : decode cL_goes 763 = .ok (.goto 5, 3) := by decide +kernel
theorem dL_goes_766 : decode cL_goes 766 = .ok (.bipush (-102), 2) := by decide +kernel
theorem dL_goes_768 : decode cL_goes 768 = .ok (.if_icmp .ne 7, 3) := by decide +kernel
theorem dL_goes_771 : decode cL_goes 771 = .ok (.iconst 1, 1) := by decide +kernel
theorem dL_goes_772 : decode cL_goes 772 = .ok (.goto 4, 3) := by decide +kernel
theorem dL_goes_775 : decode cL_goes 775 = .ok (.iconst 0, 1) := by decide +kernel
theorem dL_goes_776 : decode cL_goes 776 = .ok (.ireturn, 1) := by decide +kernel
theorem dL_goes_777 : decode cL_goes 777 = .ok (.iload_n 2, 1) := by decide +kernel
theorem dL_goes_778 : decode cL_goes 778 = .ok (.bipush 30, 2) := by decide +kernel
theorem dL_goes_780 : decode cL_goes 780 = .ok (.invokestatic 93, 3) := by decide +kernel
theorem dL_goes_783 : decode cL_goes 783 = .ok (.ifCond .ne 8, 3) := by decide +kernel
theorem dL_goes_786 : decode cL_goes 786 = .ok (.ldc 120, 2) := by decide +kernel
theorem dL_goes_788 : decode cL_goes 788 = .ok (.goto 11, 3) := by decide +kernel
theorem dL_goes_791 : decode cL_goes 791 = .ok (.iload_n 2, 1) := by decide +kernel
theorem dL_goes_792 : decode cL_goes 792 = .ok (.iconst 2, 1) := by decide +kernel
theorem dL_goes_793 : decode cL_goes 793 = .ok (.ishr, 1) := by decide +kernel
theorem dL_goes_794 : decode cL_goes 794 = .ok (.ldc 121, 2) := by decide +kernel
theorem dL_goes_796 : decode cL_goes 796 = .ok (.invokestatic 93, 3) := by decide +kernel
theorem dL_goes_799 : decode cL_goes 799 = .ok (.istore 16, 2) := by decide +kernel
theorem dL_goes_801 : decode cL_goes 801 = .ok (.iload 16, 2) := by decide +kernel
theorem dL_goes_803 : decode cL_goes 803 = .ok (.ldc 120, 2) := by decide +kernel
theorem dL_goes_805 : decode cL_goes 805 = .ok (.if_icmp .ge 7, 3) := by decide +kernel
theorem dL_goes_808 : decode cL_goes 808 = .ok (.iconst 1, 1) := by decide +kernel
theorem dL_goes_809 : decode cL_goes 809 = .ok (.goto 4, 3) := by decide +kernel
theorem dL_goes_812 : decode cL_goes 812 = .ok (.iconst 0, 1) := by decide +kernel
theorem dL_goes_813 : decode cL_goes 813 = .ok (.istore 17, 2) := by decide +kernel
theorem dL_goes_815 : decode cL_goes 815 = .ok (.iload 15, 2) := by decide +kernel
theorem dL_goes_817 : decode cL_goes 817 = .ok (.ifCond .eq 43, 3) := by decide +kernel
theorem dL_goes_820 : decode cL_goes 820 = .ok (.iload 17, 2) := by decide +kernel
theorem dL_goes_822 : decode cL_goes 822 = .ok (.ifCond .eq 38, 3) := by decide +kernel
theorem dL_goes_825 : decode cL_goes 825 = .ok (.iload 16, 2) := by decide +kernel
theorem dL_goes_827 : decode cL_goes 827 = .ok (.iload 16, 2) := by decide +kernel
theorem dL_goes_829 : decode cL_goes 829 = .ok (.bipush 100, 2) := by decide +kernel
theorem dL_goes_831 : decode cL_goes 831 = .ok (.irem, 1) := by decide +kernel
theorem dL_goes_832 : decode cL_goes 832 = .ok (.isub, 1) := by decide +kernel
theorem dL_goes_833 : decode cL_goes 833 = .ok (.bipush 100, 2) := by decide +kernel
theorem dL_goes_835 : decode cL_goes 835 = .ok (.idiv, 1) := by decide +kernel
theorem dL_goes_836 : decode cL_goes 836 = .ok (.aload 5, 2) := by decide +kernel
theorem dL_goes_838 : decode cL_goes 838 = .ok (.iload 13, 2) := by decide +kernel
theorem dL_goes_840 : decode cL_goes 840 = .ok (.iaload, 1) := by decide +kernel
theorem dL_goes_841 : decode cL_goes 841 = .ok (.imul, 1) := by decide +kernel
theorem dL_goes_842 : decode cL_goes 842 = .ok (.iload 16, 2) := by decide +kernel
theorem dL_goes_844 : decode cL_goes 844 = .ok (.bipush 100, 2) := by decide +kernel
theorem dL_goes_846 : decode cL_goes 846 = .ok (.irem, 1) := by decide +kernel
theorem dL_goes_847 : decode cL_goes 847 = .ok (.aload 5, 2) := by decide +kernel
theorem dL_goes_849 : decode cL_goes 849 = .ok (.iload 13, 2) := by decide +kernel
theorem dL_goes_851 : decode cL_goes 851 = .ok (.iaload, 1) := by decide +kernel
theorem dL_goes_852 : decode cL_goes 852 = .ok (.imul, 1) := by decide +kernel
theorem dL_goes_853 : decode cL_goes 853 = .ok (.bipush 100, 2) := by decide +kernel
theorem dL_goes_855 : decode cL_goes 855 = .ok (.idiv, 1) := by decide +kernel
theorem dL_goes_856 : decode cL_goes 856 = .ok (.iadd, 1) := by decide +kernel
theorem dL_goes_857 : decode cL_goes 857 = .ok (.goto 4, 3) := by decide +kernel
theorem dL_goes_860 : decode cL_goes 860 = .ok (.iconst 0, 1) := by decide +kernel
theorem dL_goes_861 : decode cL_goes 861 = .ok (.istore 18, 2) := by decide +kernel
theorem dL_goes_863 : decode cL_goes 863 = .ok (.iload 15, 2) := by decide +kernel
theorem dL_goes_865 : decode cL_goes 865 = .ok (.ifCond .eq 32, 3) := by decide +kernel
theorem dL_goes_868 : decode cL_goes 868 = .ok (.iload 17, 2) := by decide +kernel
theorem dL_goes_870 : decode cL_goes 870 = .ok (.ifCond .eq 27, 3) := by decide +kernel
theorem dL_goes_873 : decode cL_goes 873 = .ok (.aload 5, 2) := by decide +kernel
theorem dL_goes_875 : decode cL_goes 875 = .ok (.bipush 8, 2) := by decide +kernel
theorem dL_goes_877 : decode cL_goes 877 = .ok (.iload 13, 2) := by decide +kernel
theorem dL_goes_879 : decode cL_goes 879 = .ok (.iadd, 1) := by decide +kernel
theorem dL_goes_880 : decode cL_goes 880 = .ok (.dup2, 1) := by decide +kernel
theorem dL_goes_881 : decode cL_goes 881 = .ok (.iaload, 1) := by decide +kernel
theorem dL_goes_882 : decode cL_goes 882 = .ok (.iload 18, 2) := by decide +kernel
theorem dL_goes_884 : decode cL_goes 884 = .ok (.iadd, 1) := by decide +kernel
theorem dL_goes_885 : decode cL_goes 885 = .ok (.iastore, 1) := by decide +kernel
theorem dL_goes_886 : decode cL_goes 886 = .ok (.aload 10, 2) := by decide +kernel
theorem dL_goes_888 : decode cL_goes 888 = .ok (.iload 13, 2) := by decide +kernel
theorem dL_goes_890 : decode cL_goes 890 = .ok (.dup2, 1) := by decide +kernel
theorem dL_goes_891 : decode cL_goes 891 = .ok (.laload, 1) := by decide +kernel
theorem dL_goes_892 : decode cL_goes 892 = .ok (.iload 18, 2) := by decide +kernel
theorem dL_goes_894 : decode cL_goes 894 = .ok (.i2l, 1) := by decide +kernel
theorem dL_goes_895 : decode cL_goes 895 = .ok (.ladd, 1) := by decide +kernel
theorem dL_goes_896 : decode cL_goes 896 = .ok (.lastore, 1) := by decide +kernel
theorem dL_goes_897 : decode cL_goes 897 = .ok (.aload_n 0, 1) := by decide +kernel
theorem dL_goes_898 : decode cL_goes 898 = .ok (.iconst 1, 1) := by decide +kernel
theorem dL_goes_899 : decode cL_goes 899 = .ok (.iload 13, 2) := by decide +kernel
theorem dL_goes_901 : decode cL_goes 901 = .ok (.iload 16, 2) := by decide +kernel
theorem dL_goes_903 : decode cL_goes 903 = .ok (.invokestatic 113, 3) := by decide +kernel
theorem dL_goes_906 : decode cL_goes 906 = .ok (.iload 14, 2) := by decide +kernel
theorem dL_goes_908 : decode cL_goes 908 = .ok (.ifCond .ne 8, 3) := by decide +kernel
theorem dL_goes_911 : decode cL_goes 911 = .ok (.bipush (-101), 2) := by decide +kernel
theorem dL_goes_913 : decode cL_goes 913 = .ok (.goto 25, 3) := by decide +kernel
theorem dL_goes_916 : decode cL_goes 916 = .ok (.iload 17, 2) := by decide +kernel
theorem dL_goes_918 : decode cL_goes 918 = .ok (.ifCond .ne 8, 3) := by decide +kernel
theorem dL_goes_921 : decode cL_goes 921 = .ok (.bipush (-102), 2) := by decide +kernel
theorem dL_goes_923 : decode cL_goes 923 = .ok (.goto 15, 3) := by decide +kernel
theorem dL_goes_926 : decode cL_goes 926 = .ok (.iload 15, 2) := by decide +kernel
theorem dL_goes_928 : decode cL_goes 928 = .ok (.ifCond .eq 8, 3) := by decide +kernel
theorem dL_goes_931 : decode cL_goes 931 = .ok (.iload 18, 2) := by decide +kernel
theorem dL_goes_933 : decode cL_goes 933 = .ok (.goto 5, 3) := by decide +kernel
theorem dL_goes_936 : decode cL_goes 936 = .ok (.bipush (-103), 2) := by decide +kernel
theorem dL_goes_938 : decode cL_goes 938 = .ok (.if_icmp .ne 7, 3) := by decide +kernel
theorem dL_goes_941 : decode cL_goes 941 = .ok (.iconst 1, 1) := by decide +kernel
theorem dL_goes_942 : decode cL_goes 942 = .ok (.goto 4, 3) := by decide +kernel
theorem dL_goes_945 : decode cL_goes 945 = .ok (.iconst 0, 1) := by decide +kernel
theorem dL_goes_946 : decode cL_goes 946 = .ok (.ireturn, 1) := by decide +kernel
theorem dL_sells_0 : decode cL_sells 0 = .ok (.iload_n 1, 1) := by decide +kernel
theorem dL_sells_1 : decode cL_sells 1 = .ok (.iconst 4, 1) := by decide +kernel
theorem dL_sells_2 : decode cL_sells 2 = .ok (.ishr, 1) := by decide +kernel
theorem dL_sells_3 : decode cL_sells 3 = .ok (.aload_n 2, 1) := by decide +kernel
theorem dL_sells_4 : decode cL_sells 4 = .ok (.iconst 1, 1) := by decide +kernel
theorem dL_sells_5 : decode cL_sells 5 = .ok (.iaload, 1) := by decide +kernel
theorem dL_sells_6 : decode cL_sells 6 = .ok (.iconst 1, 1) := by decide +kernel
theorem dL_sells_7 : decode cL_sells 7 = .ok (.iadd, 1) := by decide +kernel
theorem dL_sells_8 : decode cL_sells 8 = .ok (.invokestatic 93, 3) := by decide +kernel
theorem dL_sells_11 : decode cL_sells 11 = .ok (.istore 9, 2) := by decide +kernel
theorem dL_sells_13 : decode cL_sells 13 = .ok (.iload 9, 2) := by decide +kernel
theorem dL_sells_15 : decode cL_sells 15 = .ok (.aload_n 2, 1) := by decide +kernel
theorem dL_sells_16 : decode cL_sells 16 = .ok (.iconst 1, 1) := by decide +kernel
theorem dL_sells_17 : decode cL_sells 17 = .ok (.iaload, 1) := by decide +kernel
theorem dL_sells_18 : decode cL_sells 18 = .ok (.if_icmp .ge 7, 3) := by decide +kernel
theorem dL_sells_21 : decode cL_sells 21 = .ok (.iconst 1, 1) := by decide +kernel
theorem dL_sells_22 : decode cL_sells 22 = .ok (.goto 4, 3) := by decide +kernel
theorem dL_sells_25 : decode cL_sells 25 = .ok (.iconst 0, 1) := by decide +kernel
theorem dL_sells_26 : decode cL_sells 26 = .ok (.istore 10, 2) := by decide +kernel
theorem dL_sells_28 : decode cL_sells 28 = .ok (.iconst 0, 1) := by decide +kernel
theorem dL_sells_29 : decode cL_sells 29 = .ok (.istore 11, 2) := by decide +kernel
theorem dL_sells_31 : decode cL_sells 31 = .ok (.iconst 0, 1) := by decide +kernel
theorem dL_sells_32 : decode cL_sells 32 = .ok (.istore 12, 2) := by decide +kernel
theorem dL_sells_34 : decode cL_sells 34 = .ok (.iload 12, 2) := by decide +kernel
theorem dL_sells_36 : decode cL_sells 36 = .ok (.bipush 10, 2) := by decide +kernel
theorem dL_sells_38 : decode cL_sells 38 = .ok (.if_icmp .ge 30, 3) := by decide +kernel
theorem dL_sells_41 : decode cL_sells 41 = .ok (.iload 10, 2) := by decide +kernel
theorem dL_sells_43 : decode cL_sells 43 = .ok (.ifCond .eq 25, 3) := by decide +kernel
theorem dL_sells_46 : decode cL_sells 46 = .ok (.iload 11, 2) := by decide +kernel
theorem dL_sells_48 : decode cL_sells 48 = .ok (.aload 5, 2) := by decide +kernel
theorem dL_sells_50 : decode cL_sells 50 = .ok (.bipush 10, 2) := by decide +kernel
theorem dL_sells_52 : decode cL_sells 52 = .ok (.iload 9, 2) := by decide +kernel
theorem dL_sells_54 : decode cL_sells 54 = .ok (.imul, 1) := by decide +kernel
theorem dL_sells_55 : decode cL_sells 55 = .ok (.iload 12, 2) := by decide +kernel
theorem dL_sells_57 : decode cL_sells 57 = .ok (.iadd, 1) := by decide +kernel
theorem dL_sells_58 : decode cL_sells 58 = .ok (.iaload, 1) := by decide +kernel
theorem dL_sells_59 : decode cL_sells 59 = .ok (.iadd, 1) := by decide +kernel
theorem dL_sells_60 : decode cL_sells 60 = .ok (.istore 11, 2) := by decide +kernel
theorem dL_sells_62 : decode cL_sells 62 = .ok (.iinc 12 1, 3) := by decide +kernel
theorem dL_sells_65 : decode cL_sells 65 = .ok (.goto (-31), 3) := by decide +kernel
theorem dL_sells_68 : decode cL_sells 68 = .ok (.iload_n 1, 1) := by decide +kernel
theorem dL_sells_69 : decode cL_sells 69 = .ok (.bipush 30, 2) := by decide +kernel
theorem dL_sells_71 : decode cL_sells 71 = .ok (.invokestatic 93, 3) := by decide +kernel
theorem dL_sells_74 : decode cL_sells 74 = .ok (.ifCond .ne 16, 3) := by decide +kernel
theorem dL_sells_77 : decode cL_sells 77 = .ok (.ldc 122, 2) := by decide +kernel
theorem dL_sells_79 : decode cL_sells 79 = .ok (.iload_n 1, 1) := by decide +kernel
theorem dL_sells_80 : decode cL_sells 80 = .ok (.iconst 3, 1) := by decide +kernel
theorem dL_sells_81 : decode cL_sells 81 = .ok (.ishr, 1) := by decide +kernel
theorem dL_sells_82 : decode cL_sells 82 = .ok (.iconst 2, 1) := by decide +kernel
theorem dL_sells_83 : decode cL_sells 83 = .ok (.invokestatic 93, 3) := by decide +kernel
theorem dL_sells_86 : decode cL_sells 86 = .ok (.imul, 1) := by decide +kernel
theorem dL_sells_87 : decode cL_sells 87 = .ok (.goto 41, 3) := by decide +kernel
theorem dL_sells_90 : decode cL_sells 90 = .ok (.iload_n 1, 1) := by decide +kernel
theorem dL_sells_91 : decode cL_sells 91 = .ok (.bipush 12, 2) := by decide +kernel
theorem dL_sells_93 : decode cL_sells 93 = .ok (.invokestatic 93, 3) := by decide +kernel
theorem dL_sells_96 : decode cL_sells 96 = .ok (.ifCond .ne 10, 3) := by decide +kernel
theorem dL_sells_99 : decode cL_sells 99 = .ok (.iload 11, 2) := by decide +kernel
theorem dL_sells_101 : decode cL_sells 101 = .ok (.iconst 1, 1) := by decide +kernel
theorem dL_sells_102 : decode cL_sells 102 = .ok (.iadd, 1) := by decide +kernel
theorem dL_sells_103 : decode cL_sells 103 = .ok (.goto 25, 3) := by decide +kernel
theorem dL_sells_106 : decode cL_sells 106 = .ok (.iconst 1, 1) := by decide +kernel
theorem dL_sells_107 : decode cL_sells 107 = .ok (.iload_n 1, 1) := by decide +kernel
theorem dL_sells_108 : decode cL_sells 108 = .ok (.iconst 2, 1) := by decide +kernel
theorem dL_sells_109 : decode cL_sells 109 = .ok (.ishr, 1) := by decide +kernel
theorem dL_sells_110 : decode cL_sells 110 = .ok (.iload 11, 2) := by decide +kernel
theorem dL_sells_112 : decode cL_sells 112 = .ok (.iconst 4, 1) := by decide +kernel
theorem dL_sells_113 : decode cL_sells 113 = .ok (.if_icmp .le 10, 3) := by decide +kernel
theorem dL_sells_116 : decode cL_sells 116 = .ok (.iload 11, 2) := by decide +kernel
theorem dL_sells_118 : decode cL_sells 118 = .ok (.iconst 2, 1) := by decide +kernel
theorem dL_sells_119 : decode cL_sells 119 = .ok (.idiv, 1) := by decide +kernel
theorem dL_sells_120 : decode cL_sells 120 = .ok (.goto 4, 3) := by decide +kernel
theorem dL_sells_123 : decode cL_sells 123 = .ok (.iconst 3, 1) := by decide +kernel
theorem dL_sells_124 : decode cL_sells 124 = .ok (.invokestatic 93, 3) := by decide +kernel
theorem dL_sells_127 : decode cL_sells 127 = .ok (.iadd, 1) := by decide +kernel
theorem dL_sells_128 : decode cL_sells 128 = .ok (.istore 12, 2) := by decide +kernel
theorem dL_sells_130 : decode cL_sells 130 = .ok (.iload 12, 2) := by decide +kernel
theorem dL_sells_132 : decode cL_sells 132 = .ok (.ifCond .le 14, 3) := by decide +kernel
theorem dL_sells_135 : decode cL_sells 135 = .ok (.iload 12, 2) := by decide +kernel
theorem dL_sells_137 : decode cL_sells 137 = .ok (.ldc 122, 2) := by decide +kernel
theorem dL_sells_139 : decode cL_sells 139 = .ok (.if_icmp .ge 7, 3) := by decide +kernel
theorem dL_sells_142 : decode cL_sells 142 = .ok (.iconst 1, 1) := by decide +kernel
theorem dL_sells_143 : decode cL_sells 143 = .ok (.goto 4, 3) := by decide +kernel
theorem dL_sells_146 : decode cL_sells 146 = .ok (.iconst 0, 1) := by decide +kernel
theorem dL_sells_147 : decode cL_sells 147 = .ok (.istore 13, 2) := by decide +kernel
theorem dL_sells_149 : decode cL_sells 149 = .ok (.iload 10, 2) := by decide +kernel
theorem dL_sells_151 : decode cL_sells 151 = .ok (.ifCond .ne 8, 3) := by decide +kernel
theorem dL_sells_154 : decode cL_sells 154 = .ok (.bipush (-101), 2) := by decide +kernel
theorem dL_sells_156 : decode cL_sells 156 = .ok (.goto 26, 3) := by decide +kernel
theorem dL_sells_159 : decode cL_sells 159 = .ok (.iload 13, 2) := by decide +kernel
theorem dL_sells_161 : decode cL_sells 161 = .ok (.ifCond .ne 8, 3) := by decide +kernel
theorem dL_sells_164 : decode cL_sells 164 = .ok (.bipush (-102), 2) := by decide +kernel
theorem dL_sells_166 : decode cL_sells 166 = .ok (.goto 16, 3) := by decide +kernel
theorem dL_sells_169 : decode cL_sells 169 = .ok (.iload 12, 2) := by decide +kernel
theorem dL_sells_171 : decode cL_sells 171 = .ok (.iload 11, 2) := by decide +kernel
theorem dL_sells_173 : decode cL_sells 173 = .ok (.if_icmp .le 8, 3) := by decide +kernel
theorem dL_sells_176 : decode cL_sells 176 = .ok (.bipush (-103), 2) := by decide +kernel
theorem dL_sells_178 : decode cL_sells 178 = .ok (.goto 4, 3) := by decide +kernel
theorem dL_sells_181 : decode cL_sells 181 = .ok (.iconst 0, 1) := by decide +kernel
theorem dL_sells_182 : decode cL_sells 182 = .ok (.istore 14, 2) := by decide +kernel
theorem dL_sells_184 : decode cL_sells 184 = .ok (.iload 14, 2) := by decide +kernel
theorem dL_sells_186 : decode cL_sells 186 = .ok (.ifCond .ne 8, 3) := by decide +kernel
theorem dL_sells_189 : decode cL_sells 189 = .ok (.iload 12, 2) := by decide +kernel
theorem dL_sells_191 : decode cL_sells 191 = .ok (.goto 4, 3) := by decide +kernel
theorem dL_sells_194 : decode cL_sells 194 = .ok (.iconst 0, 1) := by decide +kernel
theorem dL_sells_195 : decode cL_sells 195 = .ok (.istore 15, 2) := by decide +kernel
theorem dL_sells_197 : decode cL_sells 197 = .ok (.bipush 10, 2) := by decide +kernel
theorem dL_sells_199 : decode cL_sells 199 = .ok (.iload 9, 2) := by decide +kernel
theorem dL_sells_201 : decode cL_sells 201 = .ok (.imul, 1) := by decide +kernel
theorem dL_sells_202 : decode cL_sells 202 = .ok (.istore 16, 2) := by decide +kernel
theorem dL_sells_204 : decode cL_sells 204 = .ok (.iload 15, 2) := by decide +kernel
theorem dL_sells_206 : decode cL_sells 206 = .ok (.ifCond .le 147, 3) := by decide +kernel
theorem dL_sells_209 : decode cL_sells 209 = .ok (.aload 5, 2) := by decide +kernel
theorem dL_sells_211 : decode cL_sells 211 = .ok (.iload 16, 2) := by decide +kernel
theorem dL_sells_213 : decode cL_sells 213 = .ok (.iaload, 1) := by decide +kernel
theorem dL_sells_214 : decode cL_sells 214 = .ok (.iload 15, 2) := by decide +kernel
theorem dL_sells_216 : decode cL_sells 216 = .ok (.if_icmp .ge 11, 3) := by decide +kernel
theorem dL_sells_219 : decode cL_sells 219 = .ok (.aload 5, 2) := by decide +kernel
theorem dL_sells_221 : decode cL_sells 221 = .ok (.iload 16, 2) := by decide +kernel
theorem dL_sells_223 : decode cL_sells 223 = .ok (.iaload, 1) := by decide +kernel
theorem dL_sells_224 : decode cL_sells 224 = .ok (.goto 5, 3) := by decide +kernel
theorem dL_sells_227 : decode cL_sells 227 = .ok (.iload 15, 2) := by decide +kernel
theorem dL_sells_229 : decode cL_sells 229 = .ok (.istore 17, 2) := by decide +kernel
theorem dL_sells_231 : decode cL_sells 231 = .ok (.iload 17, 2) := by decide +kernel
theorem dL_sells_233 : decode cL_sells 233 = .ok (.ifCond .le 17, 3) := by decide +kernel
theorem dL_sells_236 : decode cL_sells 236 = .ok (.aload_n 2, 1) := by decide +kernel
theorem dL_sells_237 : decode cL_sells 237 = .ok (.aload_n 3, 1) := by decide +kernel
theorem dL_sells_238 : decode cL_sells 238 = .ok (.aload 6, 2) := by decide +kernel
theorem dL_sells_240 : decode cL_sells 240 = .ok (.aload 7, 2) := by decide +kernel
theorem dL_sells_242 : decode cL_sells 242 = .ok (.iload 16, 2) := by decide +kernel
theorem dL_sells_244 : decode cL_sells 244 = .ok (.invokestatic 123, 3) := by decide +kernel
theorem dL_sells_247 : decode cL_sells 247 = .ok (.goto 4, 3) := by decide +kernel
theorem dL_sells_250 : decode cL_sells 250 = .ok (.iconst 0, 1) := by decide +kernel
theorem dL_sells_251 : decode cL_sells 251 = .ok (.istore 18, 2) := by decide +kernel
theorem dL_sells_253 : decode cL_sells 253 = .ok (.aload 8, 2) := by decide +kernel
theorem dL_sells_255 : decode cL_sells 255 = .ok (.bipush 8, 2) := by decide +kernel
theorem dL_sells_257 : decode cL_sells 257 = .ok (.iload 9, 2) := by decide +kernel
theorem dL_sells_259 : decode cL_sells 259 = .ok (.iadd, 1) := by decide +kernel
theorem dL_sells_260 : decode cL_sells 260 = .ok (.dup2, 1) := by decide +kernel
theorem dL_sells_261 : decode cL_sells 261 = .ok (.laload, 1) := by decide +kernel
theorem dL_sells_262 : decode cL_sells 262 = .ok (.iload 17, 2) := by decide +kernel
theorem dL_sells_264 : decode cL_sells 264 = .ok (.i2l, 1) := by decide +kernel
theorem dL_sells_265 : decode cL_sells 265 = .ok (.iload 18, 2) := by decide +kernel
theorem dL_sells_267 : decode cL_sells 267 = .ok (.i2l, 1) := by decide +kernel
theorem dL_sells_268 : decode cL_sells 268 = .ok (.lmul, 1) := by decide +kernel
theorem dL_sells_269 : decode cL_sells 269 = .ok (.ladd, 1) := by decide +kernel
theorem dL_sells_270 : decode cL_sells 270 = .ok (.lastore, 1) := by decide +kernel
theorem dL_sells_271 : decode cL_sells 271 = .ok (.aload 8, 2) := by decide +kernel
theorem dL_sells_273 : decode cL_sells 273 = .ok (.bipush 12, 2) := by decide +kernel
theorem dL_sells_275 : decode cL_sells 275 = .ok (.iload 9, 2) := by decide +kernel
theorem dL_sells_277 : decode cL_sells 277 = .ok (.iadd, 1) := by decide +kernel
theorem dL_sells_278 : decode cL_sells 278 = .ok (.dup2, 1) := by decide +kernel
theorem dL_sells_279 : decode cL_sells 279 = .ok (.laload, 1) := by decide +kernel
theorem dL_sells_280 : decode cL_sells 280 = .ok (.iload 17, 2) := by decide +kernel
theorem dL_sells_282 : decode cL_sells 282 = .ok (.i2l, 1) := by decide +kernel
theorem dL_sells_283 : decode cL_sells 283 = .ok (.aload_n 3, 1) := by decide +kernel
theorem dL_sells_284 : decode cL_sells 284 = .ok (.aload_n 2, 1) := by decide +kernel
theorem dL_sells_285 : decode cL_sells 285 = .ok (.iconst 0, 1) := by decide +kernel
theorem dL_sells_286 : decode cL_sells 286 = .ok (.iaload, 1) := by decide +kernel
theorem dL_sells_287 : decode cL_sells 287 = .ok (.iconst 1, 1) := by decide +kernel
theorem dL_sells_288 : decode cL_sells 288 = .ok (.isub, 1) := by decide +kernel
theorem dL_sells_289 : decode cL_sells 289 = .ok (.iaload, 1) := by decide +kernel
theorem dL_sells_290 : decode cL_sells 290 = .ok (.aload 6, 2) := by decide +kernel
theorem dL_sells_292 : decode cL_sells 292 = .ok (.iload 16, 2) := by decide +kernel
theorem dL_sells_294 : decode cL_sells 294 = .ok (.iaload, 1) := by decide +kernel
theorem dL_sells_295 : decode cL_sells 295 = .ok (.isub, 1) := by decide +kernel
theorem dL_sells_296 : decode cL_sells 296 = .ok (.iload 18, 2) := by decide +kernel
theorem dL_sells_298 : decode cL_sells 298 = .ok (.isub, 1) := by decide +kernel
theorem dL_sells_299 : decode cL_sells 299 = .ok (.i2l, 1) := by decide +kernel
theorem dL_sells_300 : decode cL_sells 300 = .ok (.lmul, 1) := by decide +kernel
theorem dL_sells_301 : decode cL_sells 301 = .ok (.ladd, 1) := by decide +kernel
theorem dL_sells_302 : decode cL_sells 302 = .ok (.lastore, 1) := by decide +kernel
theorem dL_sells_303 : decode cL_sells 303 = .ok (.iload 14, 2) := by decide +kernel
theorem dL_sells_305 : decode cL_sells 305 = .ok (.iload 17, 2) := by decide +kernel
theorem dL_sells_307 : decode cL_sells 307 = .ok (.ifCond .le 19, 3) := by decide +kernel
theorem dL_sells_310 : decode cL_sells 310 = .ok (.aload_n 2, 1) := by decide +kernel
theorem dL_sells_311 : decode cL_sells 311 = .ok (.aload 7, 2) := by decide +kernel
theorem dL_sells_313 : decode cL_sells 313 = .ok (.iload 16, 2) := by decide +kernel
theorem dL_sells_315 : decode cL_sells 315 = .ok (.invokestatic 16, 3) := by decide +kernel
theorem dL_sells_318 : decode cL_sells 318 = .ok (.ifCond .eq 8, 3) := by decide +kernel
theorem dL_sells_321 : decode cL_sells 321 = .ok (.iload 17, 2) := by decide +kernel
theorem dL_sells_323 : decode cL_sells 323 = .ok (.goto 4, 3) := by decide +kernel
theorem dL_sells_326 : decode cL_sells 326 = .ok (.iconst 0, 1) := by decide +kernel
theorem dL_sells_327 : decode cL_sells 327 = .ok (.iadd, 1) := by decide +kernel
theorem dL_sells_328 : decode cL_sells 328 = .ok (.istore 14, 2) := by decide +kernel
theorem dL_sells_330 : decode cL_sells 330 = .ok (.aload 5, 2) := by decide +kernel
theorem dL_sells_332 : decode cL_sells 332 = .ok (.iload 16, 2) := by decide +kernel
theorem dL_sells_334 : decode cL_sells 334 = .ok (.dup2, 1) := by decide +kernel
theorem dL_sells_335 : decode cL_sells 335 = .ok (.iaload, 1) := by decide +kernel
theorem dL_sells_336 : decode cL_sells 336 = .ok (.iload 17, 2) := by decide +kernel
theorem dL_sells_338 : decode cL_sells 338 = .ok (.isub, 1) := by decide +kernel
theorem dL_sells_339 : decode cL_sells 339 = .ok (.iastore, 1) := by decide +kernel
theorem dL_sells_340 : decode cL_sells 340 = .ok (.iload 15, 2) := by decide +kernel
theorem dL_sells_342 : decode cL_sells 342 = .ok (.iload 17, 2) := by decide +kernel
theorem dL_sells_344 : decode cL_sells 344 = .ok (.isub, 1) := by decide +kernel
theorem dL_sells_345 : decode cL_sells 345 = .ok (.istore 15, 2) := by decide +kernel
theorem dL_sells_347 : decode cL_sells 347 = .ok (.iinc 16 1, 3) := by decide +kernel
theorem dL_sells_350 : decode cL_sells 350 = .ok (.goto (-146), 3) := by decide +kernel
theorem dL_sells_353 : decode cL_sells 353 = .ok (.aload_n 0, 1) := by decide +kernel
theorem dL_sells_354 : decode cL_sells 354 = .ok (.iconst 2, 1) := by decide +kernel
theorem dL_sells_355 : decode cL_sells 355 = .ok (.iload 9, 2) := by decide +kernel
theorem dL_sells_357 : decode cL_sells 357 = .ok (.iload 12, 2) := by decide +kernel
theorem dL_sells_359 : decode cL_sells 359 = .ok (.invokestatic 113, 3) := by decide +kernel
theorem dL_sells_362 : decode cL_sells 362 = .ok (.iload 14, 2) := by decide +kernel
theorem dL_sells_364 : decode cL_sells 364 = .ok (.if_icmp .ne 7, 3) := by decide +kernel
theorem dL_sells_367 : decode cL_sells 367 = .ok (.iconst 1, 1) := by decide +kernel
theorem dL_sells_368 : decode cL_sells 368 = .ok (.goto 4, 3) := by decide +kernel
theorem dL_sells_371 : decode cL_sells 371 = .ok (.iconst 0, 1) := by decide +kernel
theorem dL_sells_372 : decode cL_sells 372 = .ok (.ireturn, 1) := by decide +kernel
theorem dL_tells_0 : decode cL_tells 0 = .ok (.ldc2_w 91, 3) := by decide +kernel
theorem dL_tells_3 : decode cL_tells 3 = .ok (.lstore 10, 2) := by decide +kernel
theorem dL_tells_5 : decode cL_tells 5 = .ok (.iload_n 1, 1) := by decide +kernel
theorem dL_tells_6 : decode cL_tells 6 = .ok (.bipush 30, 2) := by decide +kernel
theorem dL_tells_8 : decode cL_tells 8 = .ok (.invokestatic 93, 3) := by decide +kernel
theorem dL_tells_11 : decode cL_tells 11 = .ok (.ifCond .ne 8, 3) := by decide +kernel
theorem dL_tells_14 : decode cL_tells 14 = .ok (.bipush 60, 2) := by decide +kernel
theorem dL_tells_16 : decode cL_tells 16 = .ok (.goto 33, 3) := by decide +kernel
theorem dL_tells_19 : decode cL_tells 19 = .ok (.iload_n 1, 1) := by decide +kernel
theorem dL_tells_20 : decode cL_tells 20 = .ok (.iconst 2, 1) := by decide +kernel
theorem dL_tells_21 : decode cL_tells 21 = .ok (.ishr, 1) := by decide +kernel
theorem dL_tells_22 : decode cL_tells 22 = .ok (.iconst 3, 1) := by decide +kernel
theorem dL_tells_23 : decode cL_tells 23 = .ok (.invokestatic 93, 3) := by decide +kernel
theorem dL_tells_26 : decode cL_tells 26 = .ok (.ifCond .ne 12, 3) := by decide +kernel
theorem dL_tells_29 : decode cL_tells 29 = .ok (.iload_n 1, 1) := by decide +kernel
theorem dL_tells_30 : decode cL_tells 30 = .ok (.bipush 60, 2) := by decide +kernel
theorem dL_tells_32 : decode cL_tells 32 = .ok (.invokestatic 93, 3) := by decide +kernel
theorem dL_tells_35 : decode cL_tells 35 = .ok (.goto 14, 3) := by decide +kernel
theorem dL_tells_38 : decode cL_tells 38 = .ok (.iload_n 1, 1) := by decide +kernel
theorem dL_tells_39 : decode cL_tells 39 = .ok (.bipush 10, 2) := by decide +kernel
theorem dL_tells_41 : decode cL_tells 41 = .ok (.invokestatic 93, 3) := by decide +kernel
theorem dL_tells_44 : decode cL_tells 44 = .ok (.bipush 6, 2) := by decide +kernel
theorem dL_tells_46 : decode cL_tells 46 = .ok (.imul, 1) := by decide +kernel
theorem dL_tells_47 : decode cL_tells 47 = .ok (.iconst 5, 1) := by decide +kernel
theorem dL_tells_48 : decode cL_tells 48 = .ok (.iadd, 1) := by decide +kernel
theorem dL_tells_49 : decode cL_tells 49 = .ok (.istore 12, 2) := by decide +kernel
theorem dL_tells_51 : decode cL_tells 51 = .ok (.iload_n 1, 1) := by decide +kernel
theorem dL_tells_52 : decode cL_tells 52 = .ok (.iconst 5, 1) := by decide +kernel
theorem dL_tells_53 : decode cL_tells 53 = .ok (.ishr, 1) := by decide +kernel
theorem dL_tells_54 : decode cL_tells 54 = .ok (.bipush 6, 2) := by decide +kernel
theorem dL_tells_56 : decode cL_tells 56 = .ok (.invokestatic 93, 3) := by decide +kernel
theorem dL_tells_59 : decode cL_tells 59 = .ok (.istore 13, 2) := by decide +kernel
theorem dL_tells_61 : decode cL_tells 61 = .ok (.iconst 0, 1) := by decide +kernel
theorem dL_tells_62 : decode cL_tells 62 = .ok (.istore 14, 2) := by decide +kernel
theorem dL_tells_64 : decode cL_tells 64 = .ok (.iload 14, 2) := by decide +kernel
theorem dL_tells_66 : decode cL_tells 66 = .ok (.aload_n 2, 1) := by decide +kernel
theorem dL_tells_67 : decode cL_tells 67 = .ok (.iconst 1, 1) := by decide +kernel
theorem dL_tells_68 : decode cL_tells 68 = .ok (.iaload, 1) := by decide +kernel
theorem dL_tells_69 : decode cL_tells 69 = .ok (.if_icmp .gt 640, 3) := by decide +kernel
theorem dL_tells_72 : decode cL_tells 72 = .ok (.iload 14, 2) := by decide +kernel
theorem dL_tells_74 : decode cL_tells 74 = .ok (.aload_n 2, 1) := by decide +kernel
theorem dL_tells_75 : decode cL_tells 75 = .ok (.iconst 1, 1) := by decide +kernel
theorem dL_tells_76 : decode cL_tells 76 = .ok (.iaload, 1) := by decide +kernel
theorem dL_tells_77 : decode cL_tells 77 = .ok (.if_icmp .ge 7, 3) := by decide +kernel
theorem dL_tells_80 : decode cL_tells 80 = .ok (.iconst 1, 1) := by decide +kernel
theorem dL_tells_81 : decode cL_tells 81 = .ok (.goto 4, 3) := by decide +kernel
theorem dL_tells_84 : decode cL_tells 84 = .ok (.iconst 0, 1) := by decide +kernel
theorem dL_tells_85 : decode cL_tells 85 = .ok (.istore 15, 2) := by decide +kernel
theorem dL_tells_87 : decode cL_tells 87 = .ok (.iconst 0, 1) := by decide +kernel
theorem dL_tells_88 : decode cL_tells 88 = .ok (.istore 16, 2) := by decide +kernel
theorem dL_tells_90 : decode cL_tells 90 = .ok (.lconst 0, 1) := by decide +kernel
theorem dL_tells_91 : decode cL_tells 91 = .ok (.lstore 17, 2) := by decide +kernel
theorem dL_tells_93 : decode cL_tells 93 = .ok (.bipush 10, 2) := by decide +kernel
theorem dL_tells_95 : decode cL_tells 95 = .ok (.iload 14, 2) := by decide +kernel
theorem dL_tells_97 : decode cL_tells 97 = .ok (.imul, 1) := by decide +kernel
theorem dL_tells_98 : decode cL_tells 98 = .ok (.istore 19, 2) := by decide +kernel
theorem dL_tells_100 : decode cL_tells 100 = .ok (.iload 19, 2) := by decide +kernel
theorem dL_tells_102 : decode cL_tells 102 = .ok (.bipush 10, 2) := by decide +kernel
theorem dL_tells_104 : decode cL_tells 104 = .ok (.iload 14, 2) := by decide +kernel
theorem dL_tells_106 : decode cL_tells 106 = .ok (.imul, 1) := by decide +kernel
theorem dL_tells_107 : decode cL_tells 107 = .ok (.bipush 10, 2) := by decide +kernel
theorem dL_tells_109 : decode cL_tells 109 = .ok (.iadd, 1) := by decide +kernel
theorem dL_tells_110 : decode cL_tells 110 = .ok (.if_icmp .ge 74, 3) := by decide +kernel
theorem dL_tells_113 : decode cL_tells 113 = .ok (.iload 15, 2) := by decide +kernel
theorem dL_tells_115 : decode cL_tells 115 = .ok (.ifCond .eq 69, 3) := by decide +kernel
theorem dL_tells_118 : decode cL_tells 118 = .ok (.iload 16, 2) := by decide +kernel
theorem dL_tells_120 : decode cL_tells 120 = .ok (.aload 6, 2) := by decide +kernel
theorem dL_tells_122 : decode cL_tells 122 = .ok (.iload 19, 2) := by decide +kernel
theorem dL_tells_124 : decode cL_tells 124 = .ok (.iaload, 1) := by decide +kernel
theorem dL_tells_125 : decode cL_tells 125 = .ok (.iadd, 1) := by decide +kernel
theorem dL_tells_126 : decode cL_tells 126 = .ok (.istore 16, 2) := by decide +kernel
theorem dL_tells_128 : decode cL_tells 128 = .ok (.lload 17, 2) := by decide +kernel
theorem dL_tells_130 : decode cL_tells 130 = .ok (.aload 6, 2) := by decide +kernel
theorem dL_tells_132 : decode cL_tells 132 = .ok (.iload 19, 2) := by decide +kernel
theorem dL_tells_134 : decode cL_tells 134 = .ok (.iaload, 1) := by decide +kernel
theorem dL_tells_135 : decode cL_tells 135 = .ok (.ifCond .le 39, 3) := by decide +kernel
theorem dL_tells_138 : decode cL_tells 138 = .ok (.aload 6, 2) := by decide +kernel
theorem dL_tells_140 : decode cL_tells 140 = .ok (.iload 19, 2) := by decide +kernel
theorem dL_tells_142 : decode cL_tells 142 = .ok (.iaload, 1) := by decide +kernel
theorem dL_tells_143 : decode cL_tells 143 = .ok (.i2l, 1) := by decide +kernel
theorem dL_tells_144 : decode cL_tells 144 = .ok (.aload_n 3, 1) := by decide +kernel
theorem dL_tells_145 : decode cL_tells 145 = .ok (.aload_n 2, 1) := by decide +kernel
theorem dL_tells_146 : decode cL_tells 146 = .ok (.iconst 0, 1) := by decide +kernel
theorem dL_tells_147 : decode cL_tells 147 = .ok (.iaload, 1) := by decide +kernel
theorem dL_tells_148 : decode cL_tells 148 = .ok (.iconst 1, 1) := by decide +kernel
theorem dL_tells_149 : decode cL_tells 149 = .ok (.isub, 1) := by decide +kernel
theorem dL_tells_150 : decode cL_tells 150 = .ok (.iaload, 1) := by decide +kernel
theorem dL_tells_151 : decode cL_tells 151 = .ok (.aload 7, 2) := by decide +kernel
theorem dL_tells_153 : decode cL_tells 153 = .ok (.iload 19, 2) := by decide +kernel
theorem dL_tells_155 : decode cL_tells 155 = .ok (.iaload, 1) := by decide +kernel
theorem dL_tells_156 : decode cL_tells 156 = .ok (.isub, 1) := by decide +kernel
theorem dL_tells_157 : decode cL_tells 157 = .ok (.aload_n 2, 1) := by decide +kernel
theorem dL_tells_158 : decode cL_tells 158 = .ok (.aload_n 3, 1) := by decide +kernel
theorem dL_tells_159 : decode cL_tells 159 = .ok (.aload 7, 2) := by decide +kernel
theorem dL_tells_161 : decode cL_tells 161 = .ok (.aload 8, 2) := by decide +kernel
theorem dL_tells_163 : decode cL_tells 163 = .ok (.iload 19, 2) := by decide +kernel
theorem dL_tells_165 : decode cL_tells 165 = .ok (.invokestatic 123, 3) := by decide +kernel
theorem dL_tells_168 : decode cL_tells 168 = .ok (.isub, 1) := by decide +kernel
theorem dL_tells_169 : decode cL_tells 169 = .ok (.i2l, 1) := by decide +kernel
theorem dL_tells_170 : decode cL_tells 170 = .ok (.lmul, 1) := by decide +kernel
theorem dL_tells_171 : decode cL_tells 171 = .ok (.goto 4, 3) := by decide +kernel
theorem dL_tells_174 : decode cL_tells 174 = .ok (.lconst 0, 1) := by decide +kernel
theorem dL_tells_175 : decode cL_tells 175 = .ok (.ladd, 1) := by decide +kernel
theorem dL_tells_176 : decode cL_tells 176 = .ok (.lstore 17, 2) := by decide +kernel
theorem dL_tells_178 : decode cL_tells 178 = .ok (.iinc 19 1, 3) := by decide +kernel
theorem dL_tells_181 : decode cL_tells 181 = .ok (.goto (-81), 3) := by decide +kernel
theorem dL_tells_184 : decode cL_tells 184 = .ok (.iload 15, 2) := by decide +kernel
theorem dL_tells_186 : decode cL_tells 186 = .ok (.ifCond .eq 40, 3) := by decide +kernel
theorem dL_tells_189 : decode cL_tells 189 = .ok (.iload 12, 2) := by decide +kernel
theorem dL_tells_191 : decode cL_tells 191 = .ok (.bipush 60, 2) := by decide +kernel
theorem dL_tells_193 : decode cL_tells 193 = .ok (.if_icmp .ge 33, 3) := by decide +kernel
theorem dL_tells_196 : decode cL_tells 196 = .ok (.iload 12, 2) := by decide +kernel
theorem dL_tells_198 : decode cL_tells 198 = .ok (.bipush 6, 2) := by decide +kernel
theorem dL_tells_200 : decode cL_tells 200 = .ok (.irem, 1) := by decide +kernel
theorem dL_tells_201 : decode cL_tells 201 = .ok (.iconst 5, 1) := by decide +kernel
theorem dL_tells_202 : decode cL_tells 202 = .ok (.if_icmp .ne 24, 3) := by decide +kernel
theorem dL_tells_205 : decode cL_tells 205 = .ok (.aload 5, 2) := by decide +kernel
theorem dL_tells_207 : decode cL_tells 207 = .ok (.bipush 10, 2) := by decide +kernel
theorem dL_tells_209 : decode cL_tells 209 = .ok (.iload 14, 2) := by decide +kernel
theorem dL_tells_211 : decode cL_tells 211 = .ok (.imul, 1) := by decide +kernel
theorem dL_tells_212 : decode cL_tells 212 = .ok (.iload 12, 2) := by decide +kernel
theorem dL_tells_214 : decode cL_tells 214 = .ok (.bipush 6, 2) := by decide +kernel
theorem dL_tells_216 : decode cL_tells 216 = .ok (.idiv, 1) := by decide +kernel
theorem dL_tells_217 : decode cL_tells 217 = .ok (.iadd, 1) := by decide +kernel
theorem dL_tells_218 : decode cL_tells 218 = .ok (.iaload, 1) := by decide +kernel
theorem dL_tells_219 : decode cL_tells 219 = .ok (.ifCond .le 7, 3) := by decide +kernel
theorem dL_tells_222 : decode cL_tells 222 = .ok (.iconst 1, 1) := by decide +kernel
theorem dL_tells_223 : decode cL_tells 223 = .ok (.goto 4, 3) := by decide +kernel
theorem dL_tells_226 : decode cL_tells 226 = .ok (.iconst 0, 1) := by decide +kernel
theorem dL_tells_227 : decode cL_tells 227 = .ok (.istore 19, 2) := by decide +kernel
theorem dL_tells_229 : decode cL_tells 229 = .ok (.aload_n 0, 1) := by decide +kernel
theorem dL_tells_230 : decode cL_tells 230 = .ok (.iconst 0, 1) := by decide +kernel
theorem dL_tells_231 : decode cL_tells 231 = .ok (.iload 14, 2) := by decide +kernel
theorem dL_tells_233 : decode cL_tells 233 = .ok (.iconst 0, 1) := by decide +kernel
theorem dL_tells_234 : decode cL_tells 234 = .ok (.invokestatic 127, 3) := by decide +kernel
theorem dL_tells_237 : decode cL_tells 237 = .ok (.iload 15, 2) := by decide +kernel
theorem dL_tells_239 : decode cL_tells 239 = .ok (.ifCond .eq 14, 3) := by decide +kernel
theorem dL_tells_242 : decode cL_tells 242 = .ok (.aload 4, 2) := by decide +kernel
theorem dL_tells_244 : decode cL_tells 244 = .ok (.bipush 8, 2) := by decide +kernel
theorem dL_tells_246 : decode cL_tells 246 = .ok (.iload 14, 2) := by decide +kernel
theorem dL_tells_248 : decode cL_tells 248 = .ok (.iadd, 1) := by decide +kernel
theorem dL_tells_249 : decode cL_tells 249 = .ok (.iaload, 1) := by decide +kernel
theorem dL_tells_250 : decode cL_tells 250 = .ok (.goto 5, 3) := by decide +kernel
theorem dL_tells_253 : decode cL_tells 253 = .ok (.bipush (-101), 2) := by decide +kernel
theorem dL_tells_255 : decode cL_tells 255 = .ok (.if_icmp .ne 115, 3) := by decide +kernel
theorem dL_tells_258 : decode cL_tells 258 = .ok (.aload_n 0, 1) := by decide +kernel
theorem dL_tells_259 : decode cL_tells 259 = .ok (.iconst 1, 1) := by decide +kernel
theorem dL_tells_260 : decode cL_tells 260 = .ok (.iload 14, 2) := by decide +kernel
theorem dL_tells_262 : decode cL_tells 262 = .ok (.iconst 0, 1) := by decide +kernel
theorem dL_tells_263 : decode cL_tells 263 = .ok (.invokestatic 127, 3) := by decide +kernel
theorem dL_tells_266 : decode cL_tells 266 = .ok (.iload 15, 2) := by decide +kernel
theorem dL_tells_268 : decode cL_tells 268 = .ok (.ifCond .eq 14, 3) := by decide +kernel
theorem dL_tells_271 : decode cL_tells 271 = .ok (.aload 4, 2) := by decide +kernel
theorem dL_tells_273 : decode cL_tells 273 = .ok (.bipush 12, 2) := by decide +kernel
theorem dL_tells_275 : decode cL_tells 275 = .ok (.iload 14, 2) := by decide +kernel
theorem dL_tells_277 : decode cL_tells 277 = .ok (.iadd, 1) := by decide +kernel
theorem dL_tells_278 : decode cL_tells 278 = .ok (.iaload, 1) := by decide +kernel
theorem dL_tells_279 : decode cL_tells 279 = .ok (.goto 5, 3) := by decide +kernel
theorem dL_tells_282 : decode cL_tells 282 = .ok (.bipush (-101), 2) := by decide +kernel
theorem dL_tells_284 : decode cL_tells 284 = .ok (.if_icmp .ne 86, 3) := by decide +kernel
theorem dL_tells_287 : decode cL_tells 287 = .ok (.aload_n 0, 1) := by decide +kernel
theorem dL_tells_288 : decode cL_tells 288 = .ok (.iconst 2, 1) := by decide +kernel
theorem dL_tells_289 : decode cL_tells 289 = .ok (.iload 14, 2) := by decide +kernel
theorem dL_tells_291 : decode cL_tells 291 = .ok (.iconst 0, 1) := by decide +kernel
theorem dL_tells_292 : decode cL_tells 292 = .ok (.invokestatic 127, 3) := by decide +kernel
theorem dL_tells_295 : decode cL_tells 295 = .ok (.iload 15, 2) := by decide +kernel
theorem dL_tells_297 : decode cL_tells 297 = .ok (.ifCond .eq 16, 3) := by decide +kernel
theorem dL_tells_300 : decode cL_tells 300 = .ok (.aload_n 3, 1) := by decide +kernel
theorem dL_tells_301 : decode cL_tells 301 = .ok (.aload 4, 2) := by decide +kernel
theorem dL_tells_303 : decode cL_tells 303 = .ok (.bipush 12, 2) := by decide +kernel
theorem dL_tells_305 : decode cL_tells 305 = .ok (.iload 14, 2) := by decide +kernel
theorem dL_tells_307 : decode cL_tells 307 = .ok (.iadd, 1) := by decide +kernel
theorem dL_tells_308 : decode cL_tells 308 = .ok (.iaload, 1) := by decide +kernel
theorem dL_tells_309 : decode cL_tells 309 = .ok (.iaload, 1) := by decide +kernel
theorem dL_tells_310 : decode cL_tells 310 = .ok (.goto 5, 3) := by decide +kernel
theorem dL_tells_313 : decode cL_tells 313 = .ok (.bipush (-101), 2) := by decide +kernel
theorem dL_tells_315 : decode cL_tells 315 = .ok (.if_icmp .ne 55, 3) := by decide +kernel
theorem dL_tells_318 : decode cL_tells 318 = .ok (.aload_n 0, 1) := by decide +kernel
theorem dL_tells_319 : decode cL_tells 319 = .ok (.iconst 3, 1) := by decide +kernel
theorem dL_tells_320 : decode cL_tells 320 = .ok (.iload 14, 2) := by decide +kernel
theorem dL_tells_322 : decode cL_tells 322 = .ok (.iconst 0, 1) := by decide +kernel
theorem dL_tells_323 : decode cL_tells 323 = .ok (.invokestatic 127, 3) := by decide +kernel
theorem dL_tells_326 : decode cL_tells 326 = .ok (.iload 15, 2) := by decide +kernel
theorem dL_tells_328 : decode cL_tells 328 = .ok (.ifCond .eq 14, 3) := by decide +kernel
theorem dL_tells_331 : decode cL_tells 331 = .ok (.aload 4, 2) := by decide +kernel
theorem dL_tells_333 : decode cL_tells 333 = .ok (.bipush 20, 2) := by decide +kernel
theorem dL_tells_335 : decode cL_tells 335 = .ok (.iload 14, 2) := by decide +kernel
theorem dL_tells_337 : decode cL_tells 337 = .ok (.iadd, 1) := by decide +kernel
theorem dL_tells_338 : decode cL_tells 338 = .ok (.iaload, 1) := by decide +kernel
theorem dL_tells_339 : decode cL_tells 339 = .ok (.goto 5, 3) := by decide +kernel
theorem dL_tells_342 : decode cL_tells 342 = .ok (.bipush (-101), 2) := by decide +kernel
theorem dL_tells_344 : decode cL_tells 344 = .ok (.if_icmp .ne 26, 3) := by decide +kernel
theorem dL_tells_347 : decode cL_tells 347 = .ok (.aload_n 0, 1) := by decide +kernel
theorem dL_tells_348 : decode cL_tells 348 = .ok (.iconst 4, 1) := by decide +kernel
theorem dL_tells_349 : decode cL_tells 349 = .ok (.iload 14, 2) := by decide +kernel
theorem dL_tells_351 : decode cL_tells 351 = .ok (.iconst 0, 1) := by decide +kernel
theorem dL_tells_352 : decode cL_tells 352 = .ok (.invokestatic 127, 3) := by decide +kernel
theorem dL_tells_355 : decode cL_tells 355 = .ok (.iload 15, 2) := by decide +kernel
theorem dL_tells_357 : decode cL_tells 357 = .ok (.ifCond .eq 8, 3) := by decide +kernel
theorem dL_tells_360 : decode cL_tells 360 = .ok (.iload 16, 2) := by decide +kernel
theorem dL_tells_362 : decode cL_tells 362 = .ok (.goto 5, 3) := by decide +kernel
theorem dL_tells_365 : decode cL_tells 365 = .ok (.bipush (-101), 2) := by decide +kernel
theorem dL_tells_367 : decode cL_tells 367 = .ok (.if_icmp .eq 5, 3) := by decide +kernel
theorem dL_tells_370 : decode cL_tells 370 = .ok (.iconst 0, 1) := by decide +kernel
theorem dL_tells_371 : decode cL_tells 371 = .ok (.ireturn, 1) := by decide +kernel
theorem dL_tells_372 : decode cL_tells 372 = .ok (.aload_n 0, 1) := by decide +kernel
theorem dL_tells_373 : decode cL_tells 373 = .ok (.iconst 5, 1) := by decide +kernel
theorem dL_tells_374 : decode cL_tells 374 = .ok (.iload 14, 2) := by decide +kernel
theorem dL_tells_376 : decode cL_tells 376 = .ok (.iload 12, 2) := by decide +kernel
theorem dL_tells_378 : decode cL_tells 378 = .ok (.invokestatic 127, 3) := by decide +kernel
theorem dL_tells_381 : decode cL_tells 381 = .ok (.iload 15, 2) := by decide +kernel
theorem dL_tells_383 : decode cL_tells 383 = .ok (.ifCond .eq 10, 3) := by decide +kernel
theorem dL_tells_386 : decode cL_tells 386 = .ok (.iload 12, 2) := by decide +kernel
theorem dL_tells_388 : decode cL_tells 388 = .ok (.bipush 59, 2) := by decide +kernel
theorem dL_tells_390 : decode cL_tells 390 = .ok (.if_icmp .le 8, 3) := by decide +kernel
theorem dL_tells_393 : decode cL_tells 393 = .ok (.bipush (-101), 2) := by decide +kernel
theorem dL_tells_395 : decode cL_tells 395 = .ok (.goto 26, 3) := by decide +kernel
theorem dL_tells_398 : decode cL_tells 398 = .ok (.iload 19, 2) := by decide +kernel
theorem dL_tells_400 : decode cL_tells 400 = .ok (.ifCond .eq 20, 3) := by decide +kernel
theorem dL_tells_403 : decode cL_tells 403 = .ok (.aload 5, 2) := by decide +kernel
theorem dL_tells_405 : decode cL_tells 405 = .ok (.bipush 10, 2) := by decide +kernel
theorem dL_tells_407 : decode cL_tells 407 = .ok (.iload 14, 2) := by decide +kernel
theorem dL_tells_409 : decode cL_tells 409 = .ok (.imul, 1) := by decide +kernel
theorem dL_tells_410 : decode cL_tells 410 = .ok (.iload 12, 2) := by decide +kernel
theorem dL_tells_412 : decode cL_tells 412 = .ok (.bipush 6, 2) := by decide +kernel
theorem dL_tells_414 : decode cL_tells 414 = .ok (.idiv, 1) := by decide +kernel
theorem dL_tells_415 : decode cL_tells 415 = .ok (.iadd, 1) := by decide +kernel
theorem dL_tells_416 : decode cL_tells 416 = .ok (.iaload, 1) := by decide +kernel
theorem dL_tells_417 : decode cL_tells 417 = .ok (.goto 4, 3) := by decide +kernel
theorem dL_tells_420 : decode cL_tells 420 = .ok (.iconst 0, 1) := by decide +kernel
theorem dL_tells_421 : decode cL_tells 421 = .ok (.if_icmp .ne 56, 3) := by decide +kernel
theorem dL_tells_424 : decode cL_tells 424 = .ok (.aload_n 0, 1) := by decide +kernel
theorem dL_tells_425 : decode cL_tells 425 = .ok (.bipush 6, 2) := by decide +kernel
theorem dL_tells_427 : decode cL_tells 427 = .ok (.iload 14, 2) := by decide +kernel
theorem dL_tells_429 : decode cL_tells 429 = .ok (.iload 12, 2) := by decide +kernel
theorem dL_tells_431 : decode cL_tells 431 = .ok (.invokestatic 127, 3) := by decide +kernel
theorem dL_tells_434 : decode cL_tells 434 = .ok (.iload 15, 2) := by decide +kernel
theorem dL_tells_436 : decode cL_tells 436 = .ok (.ifCond .eq 10, 3) := by decide +kernel
theorem dL_tells_439 : decode cL_tells 439 = .ok (.iload 12, 2) := by decide +kernel
theorem dL_tells_441 : decode cL_tells 441 = .ok (.bipush 59, 2) := by decide +kernel
theorem dL_tells_443 : decode cL_tells 443 = .ok (.if_icmp .le 8, 3) := by decide +kernel
theorem dL_tells_446 : decode cL_tells 446 = .ok (.bipush (-101), 2) := by decide +kernel
theorem dL_tells_448 : decode cL_tells 448 = .ok (.goto 26, 3) := by decide +kernel
theorem dL_tells_451 : decode cL_tells 451 = .ok (.iload 19, 2) := by decide +kernel
theorem dL_tells_453 : decode cL_tells 453 = .ok (.ifCond .eq 20, 3) := by decide +kernel
theorem dL_tells_456 : decode cL_tells 456 = .ok (.aload 7, 2) := by decide +kernel
theorem dL_tells_458 : decode cL_tells 458 = .ok (.bipush 10, 2) := by decide +kernel
theorem dL_tells_460 : decode cL_tells 460 = .ok (.iload 14, 2) := by decide +kernel
theorem dL_tells_462 : decode cL_tells 462 = .ok (.imul, 1) := by decide +kernel
theorem dL_tells_463 : decode cL_tells 463 = .ok (.iload 12, 2) := by decide +kernel
theorem dL_tells_465 : decode cL_tells 465 = .ok (.bipush 6, 2) := by decide +kernel
theorem dL_tells_467 : decode cL_tells 467 = .ok (.idiv, 1) := by decide +kernel
theorem dL_tells_468 : decode cL_tells 468 = .ok (.iadd, 1) := by decide +kernel
theorem dL_tells_469 : decode cL_tells 469 = .ok (.iaload, 1) := by decide +kernel
theorem dL_tells_470 : decode cL_tells 470 = .ok (.goto 4, 3) := by decide +kernel
theorem dL_tells_473 : decode cL_tells 473 = .ok (.iconst (-1), 1) := by decide +kernel
theorem dL_tells_474 : decode cL_tells 474 = .ok (.if_icmp .eq 5, 3) := by decide +kernel
theorem dL_tells_477 : decode cL_tells 477 = .ok (.iconst 0, 1) := by decide +kernel
theorem dL_tells_478 : decode cL_tells 478 = .ok (.ireturn, 1) := by decide +kernel
theorem dL_tells_479 : decode cL_tells 479 = .ok (.aload_n 0, 1) := by decide +kernel
theorem dL_tells_480 : decode cL_tells 480 = .ok (.iconst 0, 1) := by decide +kernel
theorem dL_tells_481 : decode cL_tells 481 = .ok (.iload 14, 2) := by decide +kernel
theorem dL_tells_483 : decode cL_tells 483 = .ok (.iload 13, 2) := by decide +kernel
theorem dL_tells_485 : decode cL_tells 485 = .ok (.invokestatic 130, 3) := by decide +kernel
theorem dL_tells_488 : decode cL_tells 488 = .ok (.iload 15, 2) := by decide +kernel
theorem dL_tells_490 : decode cL_tells 490 = .ok (.ifCond .eq 24, 3) := by decide +kernel
theorem dL_tells_493 : decode cL_tells 493 = .ok (.iload 13, 2) := by decide +kernel
theorem dL_tells_495 : decode cL_tells 495 = .ok (.iconst 5, 1) := by decide +kernel
theorem dL_tells_496 : decode cL_tells 496 = .ok (.if_icmp .ge 18, 3) := by decide +kernel
theorem dL_tells_499 : decode cL_tells 499 = .ok (.aload_n 3, 1) := by decide +kernel
theorem dL_tells_500 : decode cL_tells 500 = .ok (.aload 5, 2) := by decide +kernel
theorem dL_tells_502 : decode cL_tells 502 = .ok (.aload 8, 2) := by decide +kernel
theorem dL_tells_504 : decode cL_tells 504 = .ok (.iload 14, 2) := by decide +kernel
theorem dL_tells_506 : decode cL_tells 506 = .ok (.iload 13, 2) := by decide +kernel
theorem dL_tells_508 : decode cL_tells 508 = .ok (.invokestatic 9, 3) := by decide +kernel
theorem dL_tells_511 : decode cL_tells 511 = .ok (.goto 5, 3) := by decide +kernel
theorem dL_tells_514 : decode cL_tells 514 = .ok (.lload 10, 2) := by decide +kernel
theorem dL_tells_516 : decode cL_tells 516 = .ok (.lcmp, 1) := by decide +kernel
theorem dL_tells_517 : decode cL_tells 517 = .ok (.ifCond .ne 141, 3) := by decide +kernel
theorem dL_tells_520 : decode cL_tells 520 = .ok (.aload_n 0, 1) := by decide +kernel
theorem dL_tells_521 : decode cL_tells 521 = .ok (.iconst 1, 1) := by decide +kernel
theorem dL_tells_522 : decode cL_tells 522 = .ok (.iload 14, 2) := by decide +kernel
theorem dL_tells_524 : decode cL_tells 524 = .ok (.iconst 0, 1) := by decide +kernel
theorem dL_tells_525 : decode cL_tells 525 = .ok (.invokestatic 130, 3) := by decide +kernel
theorem dL_tells_528 : decode cL_tells 528 = .ok (.iload 15, 2) := by decide +kernel
theorem dL_tells_530 : decode cL_tells 530 = .ok (.ifCond .eq 11, 3) := by decide +kernel
theorem dL_tells_533 : decode cL_tells 533 = .ok (.aload 9, 2) := by decide +kernel
theorem dL_tells_535 : decode cL_tells 535 = .ok (.iload 14, 2) := by decide +kernel
theorem dL_tells_537 : decode cL_tells 537 = .ok (.laload, 1) := by decide +kernel
theorem dL_tells_538 : decode cL_tells 538 = .ok (.goto 5, 3) := by decide +kernel
theorem dL_tells_541 : decode cL_tells 541 = .ok (.lload 10, 2) := by decide +kernel
theorem dL_tells_543 : decode cL_tells 543 = .ok (.lcmp, 1) := by decide +kernel
theorem dL_tells_544 : decode cL_tells 544 = .ok (.ifCond .ne 114, 3) := by decide +kernel
theorem dL_tells_547 : decode cL_tells 547 = .ok (.aload_n 0, 1) := by decide +kernel
theorem dL_tells_548 : decode cL_tells 548 = .ok (.iconst 2, 1) := by decide +kernel
theorem dL_tells_549 : decode cL_tells 549 = .ok (.iload 14, 2) := by decide +kernel
theorem dL_tells_551 : decode cL_tells 551 = .ok (.iconst 0, 1) := by decide +kernel
theorem dL_tells_552 : decode cL_tells 552 = .ok (.invokestatic 130, 3) := by decide +kernel
theorem dL_tells_555 : decode cL_tells 555 = .ok (.iload 15, 2) := by decide +kernel
theorem dL_tells_557 : decode cL_tells 557 = .ok (.ifCond .eq 11, 3) := by decide +kernel
theorem dL_tells_560 : decode cL_tells 560 = .ok (.aload 9, 2) := by decide +kernel
theorem dL_tells_562 : decode cL_tells 562 = .ok (.iload 14, 2) := by decide +kernel
theorem dL_tells_564 : decode cL_tells 564 = .ok (.laload, 1) := by decide +kernel
theorem dL_tells_565 : decode cL_tells 565 = .ok (.goto 5, 3) := by decide +kernel
theorem dL_tells_568 : decode cL_tells 568 = .ok (.lload 10, 2) := by decide +kernel
theorem dL_tells_570 : decode cL_tells 570 = .ok (.lcmp, 1) := by decide +kernel
theorem dL_tells_571 : decode cL_tells 571 = .ok (.ifCond .ne 87, 3) := by decide +kernel
theorem dL_tells_574 : decode cL_tells 574 = .ok (.aload_n 0, 1) := by decide +kernel
theorem dL_tells_575 : decode cL_tells 575 = .ok (.iconst 3, 1) := by decide +kernel
theorem dL_tells_576 : decode cL_tells 576 = .ok (.iload 14, 2) := by decide +kernel
theorem dL_tells_578 : decode cL_tells 578 = .ok (.iconst 0, 1) := by decide +kernel
theorem dL_tells_579 : decode cL_tells 579 = .ok (.invokestatic 130, 3) := by decide +kernel
theorem dL_tells_582 : decode cL_tells 582 = .ok (.iload 15, 2) := by decide +kernel
theorem dL_tells_584 : decode cL_tells 584 = .ok (.ifCond .eq 14, 3) := by decide +kernel
theorem dL_tells_587 : decode cL_tells 587 = .ok (.aload 9, 2) := by decide +kernel
theorem dL_tells_589 : decode cL_tells 589 = .ok (.bipush 8, 2) := by decide +kernel
theorem dL_tells_591 : decode cL_tells 591 = .ok (.iload 14, 2) := by decide +kernel
theorem dL_tells_593 : decode cL_tells 593 = .ok (.iadd, 1) := by decide +kernel
theorem dL_tells_594 : decode cL_tells 594 = .ok (.laload, 1) := by decide +kernel
theorem dL_tells_595 : decode cL_tells 595 = .ok (.goto 5, 3) := by decide +kernel
theorem dL_tells_598 : decode cL_tells 598 = .ok (.lload 10, 2) := by decide +kernel
theorem dL_tells_600 : decode cL_tells 600 = .ok (.lcmp, 1) := by decide +kernel
theorem dL_tells_601 : decode cL_tells 601 = .ok (.ifCond .ne 57, 3) := by decide +kernel
theorem dL_tells_604 : decode cL_tells 604 = .ok (.aload_n 0, 1) := by decide +kernel
theorem dL_tells_605 : decode cL_tells 605 = .ok (.iconst 4, 1) := by decide +kernel
theorem dL_tells_606 : decode cL_tells 606 = .ok (.iload 14, 2) := by decide +kernel
theorem dL_tells_608 : decode cL_tells 608 = .ok (.iconst 0, 1) := by decide +kernel
theorem dL_tells_609 : decode cL_tells 609 = .ok (.invokestatic 130, 3) := by decide +kernel
theorem dL_tells_612 : decode cL_tells 612 = .ok (.iload 15, 2) := by decide +kernel
theorem dL_tells_614 : decode cL_tells 614 = .ok (.ifCond .eq 14, 3) := by decide +kernel
theorem dL_tells_617 : decode cL_tells 617 = .ok (.aload 9, 2) := by decide +kernel
theorem dL_tells_619 : decode cL_tells 619 = .ok (.bipush 12, 2) := by decide +kernel
theorem dL_tells_621 : decode cL_tells 621 = .ok (.iload 14, 2) := by decide +kernel
theorem dL_tells_623 : decode cL_tells 623 = .ok (.iadd, 1) := by decide +kernel
theorem dL_tells_624 : decode cL_tells 624 = .ok (.laload, 1) := by decide +kernel
theorem dL_tells_625 : decode cL_tells 625 = .ok (.goto 5, 3) := by decide +kernel
theorem dL_tells_628 : decode cL_tells 628 = .ok (.lload 10, 2) := by decide +kernel
theorem dL_tells_630 : decode cL_tells 630 = .ok (.lcmp, 1) := by decide +kernel
theorem dL_tells_631 : decode cL_tells 631 = .ok (.ifCond .ne 27, 3) := by decide +kernel
theorem dL_tells_634 : decode cL_tells 634 = .ok (.aload_n 0, 1) := by decide +kernel
theorem dL_tells_635 : decode cL_tells 635 = .ok (.iconst 5, 1) := by decide +kernel
theorem dL_tells_636 : decode cL_tells 636 = .ok (.iload 14, 2) := by decide +kernel
theorem dL_tells_638 : decode cL_tells 638 = .ok (.iconst 0, 1) := by decide +kernel
theorem dL_tells_639 : decode cL_tells 639 = .ok (.invokestatic 130, 3) := by decide +kernel
theorem dL_tells_642 : decode cL_tells 642 = .ok (.iload 15, 2) := by decide +kernel
theorem dL_tells_644 : decode cL_tells 644 = .ok (.ifCond .eq 8, 3) := by decide +kernel
theorem dL_tells_647 : decode cL_tells 647 = .ok (.lload 17, 2) := by decide +kernel
theorem dL_tells_649 : decode cL_tells 649 = .ok (.goto 5, 3) := by decide +kernel
theorem dL_tells_652 : decode cL_tells 652 = .ok (.lload 10, 2) := by decide +kernel
theorem dL_tells_654 : decode cL_tells 654 = .ok (.lcmp, 1) := by decide +kernel
theorem dL_tells_655 : decode cL_tells 655 = .ok (.ifCond .eq 5, 3) := by decide +kernel
theorem dL_tells_658 : decode cL_tells 658 = .ok (.iconst 0, 1) := by decide +kernel
theorem dL_tells_659 : decode cL_tells 659 = .ok (.ireturn, 1) := by decide +kernel
theorem dL_tells_660 : decode cL_tells 660 = .ok (.iload 15, 2) := by decide +kernel
theorem dL_tells_662 : decode cL_tells 662 = .ok (.ifCond .eq 41, 3) := by decide +kernel
theorem dL_tells_665 : decode cL_tells 665 = .ok (.aload 9, 2) := by decide +kernel
theorem dL_tells_667 : decode cL_tells 667 = .ok (.iload 14, 2) := by decide +kernel
theorem dL_tells_669 : decode cL_tells 669 = .ok (.laload, 1) := by decide +kernel
theorem dL_tells_670 : decode cL_tells 670 = .ok (.aload 9, 2) := by decide +kernel
theorem dL_tells_672 : decode cL_tells 672 = .ok (.iconst 4, 1) := by decide +kernel
theorem dL_tells_673 : decode cL_tells 673 = .ok (.iload 14, 2) := by decide +kernel
theorem dL_tells_675 : decode cL_tells 675 = .ok (.iadd, 1) := by decide +kernel
theorem dL_tells_676 : decode cL_tells 676 = .ok (.laload, 1) := by decide +kernel
theorem dL_tells_677 : decode cL_tells 677 = .ok (.aload 4, 2) := by decide +kernel
theorem dL_tells_679 : decode cL_tells 679 = .ok (.bipush 8, 2) := by decide +kernel
theorem dL_tells_681 : decode cL_tells 681 = .ok (.iload 14, 2) := by decide +kernel
theorem dL_tells_683 : decode cL_tells 683 = .ok (.iadd, 1) := by decide +kernel
theorem dL_tells_684 : decode cL_tells 684 = .ok (.iaload, 1) := by decide +kernel
theorem dL_tells_685 : decode cL_tells 685 = .ok (.i2l, 1) := by decide +kernel
theorem dL_tells_686 : decode cL_tells 686 = .ok (.ladd, 1) := by decide +kernel
theorem dL_tells_687 : decode cL_tells 687 = .ok (.aload 4, 2) := by decide +kernel
theorem dL_tells_689 : decode cL_tells 689 = .ok (.bipush 24, 2) := by decide +kernel
theorem dL_tells_691 : decode cL_tells 691 = .ok (.iload 14, 2) := by decide +kernel
theorem dL_tells_693 : decode cL_tells 693 = .ok (.iadd, 1) := by decide +kernel
theorem dL_tells_694 : decode cL_tells 694 = .ok (.iaload, 1) := by decide +kernel
theorem dL_tells_695 : decode cL_tells 695 = .ok (.i2l, 1) := by decide +kernel
theorem dL_tells_696 : decode cL_tells 696 = .ok (.ladd, 1) := by decide +kernel
theorem dL_tells_697 : decode cL_tells 697 = .ok (.lcmp, 1) := by decide +kernel
theorem dL_tells_698 : decode cL_tells 698 = .ok (.ifCond .eq 5, 3) := by decide +kernel
theorem dL_tells_701 : decode cL_tells 701 = .ok (.iconst 0, 1) := by decide +kernel
theorem dL_tells_702 : decode cL_tells 702 = .ok (.ireturn, 1) := by decide +kernel
theorem dL_tells_703 : decode cL_tells 703 = .ok (.iinc 14 1, 3) := by decide +kernel
theorem dL_tells_706 : decode cL_tells 706 = .ok (.goto (-642), 3) := by decide +kernel
theorem dL_tells_709 : decode cL_tells 709 = .ok (.aload_n 0, 1) := by decide +kernel
theorem dL_tells_710 : decode cL_tells 710 = .ok (.invokevirtual 134, 3) := by decide +kernel
theorem dL_tells_713 : decode cL_tells 713 = .ok (.aload_n 2, 1) := by decide +kernel
theorem dL_tells_714 : decode cL_tells 714 = .ok (.iconst 0, 1) := by decide +kernel
theorem dL_tells_715 : decode cL_tells 715 = .ok (.iaload, 1) := by decide +kernel
theorem dL_tells_716 : decode cL_tells 716 = .ok (.iconst 1, 1) := by decide +kernel
theorem dL_tells_717 : decode cL_tells 717 = .ok (.isub, 1) := by decide +kernel
theorem dL_tells_718 : decode cL_tells 718 = .ok (.if_icmp .ne 19, 3) := by decide +kernel
theorem dL_tells_721 : decode cL_tells 721 = .ok (.aload_n 0, 1) := by decide +kernel
theorem dL_tells_722 : decode cL_tells 722 = .ok (.iconst 0, 1) := by decide +kernel
theorem dL_tells_723 : decode cL_tells 723 = .ok (.iconst (-1), 1) := by decide +kernel
theorem dL_tells_724 : decode cL_tells 724 = .ok (.iconst 0, 1) := by decide +kernel
theorem dL_tells_725 : decode cL_tells 725 = .ok (.invokestatic 127, 3) := by decide +kernel
theorem dL_tells_728 : decode cL_tells 728 = .ok (.bipush (-101), 2) := by decide +kernel
theorem dL_tells_730 : decode cL_tells 730 = .ok (.if_icmp .ne 7, 3) := by decide +kernel
theorem dL_tells_733 : decode cL_tells 733 = .ok (.iconst 1, 1) := by decide +kernel
theorem dL_tells_734 : decode cL_tells 734 = .ok (.goto 4, 3) := by decide +kernel
theorem dL_tells_737 : decode cL_tells 737 = .ok (.iconst 0, 1) := by decide +kernel
theorem dL_tells_738 : decode cL_tells 738 = .ok (.ireturn, 1) := by decide +kernel
