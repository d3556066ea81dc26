/-! ===== act, printed, the rest ===== -/
theorem dL_act_527 : decode cL_act 527 = .ok (.istore 13, 2) := by decide +kernel
theorem dL_act_529 : decode cL_act 529 = .ok (.aload_n 1, 1) := by decide +kernel
theorem dL_act_530 : decode cL_act 530 = .ok (.iload 5, 2) := by decide +kernel
theorem dL_act_532 : decode cL_act 532 = .ok (.invokevirtual 54, 3) := by decide +kernel
theorem dL_act_535 : decode cL_act 535 = .ok (.aload_n 1, 1) := by decide +kernel
theorem dL_act_536 : decode cL_act 536 = .ok (.iload 5, 2) := by decide +kernel
theorem dL_act_538 : decode cL_act 538 = .ok (.iload 4, 2) := by decide +kernel
theorem dL_act_540 : decode cL_act 540 = .ok (.iload 13, 2) := by decide +kernel
theorem dL_act_542 : decode cL_act 542 = .ok (.invokevirtual 74, 3) := by decide +kernel
theorem dL_act_545 : decode cL_act 545 = .ok (.aload_n 0, 1) := by decide +kernel
theorem dL_act_546 : decode cL_act 546 = .ok (.iload 5, 2) := by decide +kernel
theorem dL_act_548 : decode cL_act 548 = .ok (.iload 4, 2) := by decide +kernel
theorem dL_act_550 : decode cL_act 550 = .ok (.iload 13, 2) := by decide +kernel
theorem dL_act_552 : decode cL_act 552 = .ok (.invokevirtual 78, 3) := by decide +kernel
theorem dL_act_555 : decode cL_act 555 = .ok (.iload 11, 2) := by decide +kernel
theorem dL_act_557 : decode cL_act 557 = .ok (.if_icmp .ne 7, 3) := by decide +kernel
theorem dL_act_560 : decode cL_act 560 = .ok (.iconst 1, 1) := by decide +kernel
theorem dL_act_561 : decode cL_act 561 = .ok (.goto 4, 3) := by decide +kernel
theorem dL_act_564 : decode cL_act 564 = .ok (.iconst 0, 1) := by decide +kernel
theorem dL_act_565 : decode cL_act 565 = .ok (.ireturn, 1) := by decide +kernel
theorem dL_act_566 : decode cL_act 566 = .ok (.aload 6, 2) := by decide +kernel
theorem dL_act_568 : decode cL_act 568 = .ok (.iconst 2, 1) := by decide +kernel
theorem dL_act_569 : decode cL_act 569 = .ok (.iaload, 1) := by decide +kernel
theorem dL_act_570 : decode cL_act 570 = .ok (.istore 14, 2) := by decide +kernel
theorem dL_act_572 : decode cL_act 572 = .ok (.aload 6, 2) := by decide +kernel
theorem dL_act_574 : decode cL_act 574 = .ok (.iconst 2, 1) := by decide +kernel
theorem dL_act_575 : decode cL_act 575 = .ok (.iload_n 2, 1) := by decide +kernel
theorem dL_act_576 : decode cL_act 576 = .ok (.bipush 8, 2) := by decide +kernel
theorem dL_act_578 : decode cL_act 578 = .ok (.ishr, 1) := by decide +kernel
theorem dL_act_579 : decode cL_act 579 = .ok (.bipush 41, 2) := by decide +kernel
theorem dL_act_581 : decode cL_act 581 = .ok (.invokestatic 19, 3) := by decide +kernel
theorem dL_act_584 : decode cL_act 584 = .ok (.bipush 20, 2) := by decide +kernel
theorem dL_act_586 : decode cL_act 586 = .ok (.isub, 1) := by decide +kernel
theorem dL_act_587 : decode cL_act 587 = .ok (.iastore, 1) := by decide +kernel
theorem dL_act_588 : decode cL_act 588 = .ok (.aload 6, 2) := by decide +kernel
theorem dL_act_590 : decode cL_act 590 = .ok (.iconst 3, 1) := by decide +kernel
theorem dL_act_591 : decode cL_act 591 = .ok (.iload_n 2, 1) := by decide +kernel
theorem dL_act_592 : decode cL_act 592 = .ok (.bipush 7, 2) := by decide +kernel
theorem dL_act_594 : decode cL_act 594 = .ok (.ishr, 1) := by decide +kernel
theorem dL_act_595 : decode cL_act 595 = .ok (.bipush 31, 2) := by decide +kernel
theorem dL_act_597 : decode cL_act 597 = .ok (.invokestatic 19, 3) := by decide +kernel
theorem dL_act_600 : decode cL_act 600 = .ok (.bipush 15, 2) := by decide +kernel
theorem dL_act_602 : decode cL_act 602 = .ok (.isub, 1) := by decide +kernel
theorem dL_act_603 : decode cL_act 603 = .ok (.iastore, 1) := by decide +kernel
theorem dL_act_604 : decode cL_act 604 = .ok (.aload_n 0, 1) := by decide +kernel
theorem dL_act_605 : decode cL_act 605 = .ok (.iload 5, 2) := by decide +kernel
theorem dL_act_607 : decode cL_act 607 = .ok (.aload 6, 2) := by decide +kernel
theorem dL_act_609 : decode cL_act 609 = .ok (.iconst 2, 1) := by decide +kernel
theorem dL_act_610 : decode cL_act 610 = .ok (.iaload, 1) := by decide +kernel
theorem dL_act_611 : decode cL_act 611 = .ok (.aload 6, 2) := by decide +kernel
theorem dL_act_613 : decode cL_act 613 = .ok (.iconst 3, 1) := by decide +kernel
theorem dL_act_614 : decode cL_act 614 = .ok (.iaload, 1) := by decide +kernel
theorem dL_act_615 : decode cL_act 615 = .ok (.invokevirtual 82, 3) := by decide +kernel
theorem dL_act_618 : decode cL_act 618 = .ok (.iload 14, 2) := by decide +kernel
theorem dL_act_620 : decode cL_act 620 = .ok (.if_icmp .ne 7, 3) := by decide +kernel
theorem dL_act_623 : decode cL_act 623 = .ok (.iconst 1, 1) := by decide +kernel
theorem dL_act_624 : decode cL_act 624 = .ok (.goto 4, 3) := by decide +kernel
theorem dL_act_627 : decode cL_act 627 = .ok (.iconst 0, 1) := by decide +kernel
theorem dL_act_628 : decode cL_act 628 = .ok (.ireturn, 1) := by decide +kernel
theorem dL_act_629 : decode cL_act 629 = .ok (.aload 6, 2) := by decide +kernel
theorem dL_act_631 : decode cL_act 631 = .ok (.iconst 4, 1) := by decide +kernel
theorem dL_act_632 : decode cL_act 632 = .ok (.iaload, 1) := by decide +kernel
theorem dL_act_633 : decode cL_act 633 = .ok (.istore 15, 2) := by decide +kernel
theorem dL_act_635 : decode cL_act 635 = .ok (.aload 6, 2) := by decide +kernel
theorem dL_act_637 : decode cL_act 637 = .ok (.iconst 4, 1) := by decide +kernel
theorem dL_act_638 : decode cL_act 638 = .ok (.iload_n 2, 1) := by decide +kernel
theorem dL_act_639 : decode cL_act 639 = .ok (.bipush 7, 2) := by decide +kernel
theorem dL_act_641 : decode cL_act 641 = .ok (.ishr, 1) := by decide +kernel
theorem dL_act_642 : decode cL_act 642 = .ok (.iconst 4, 1) := by decide +kernel
theorem dL_act_643 : decode cL_act 643 = .ok (.invokestatic 19, 3) := by decide +kernel
theorem dL_act_646 : decode cL_act 646 = .ok (.ifCond .ne 7, 3) := by decide +kernel
theorem dL_act_649 : decode cL_act 649 = .ok (.iconst (-1), 1) := by decide +kernel
theorem dL_act_650 : decode cL_act 650 = .ok (.goto 13, 3) := by decide +kernel
theorem dL_act_653 : decode cL_act 653 = .ok (.iload_n 2, 1) := by decide +kernel
theorem dL_act_654 : decode cL_act 654 = .ok (.bipush 8, 2) := by decide +kernel
theorem dL_act_656 : decode cL_act 656 = .ok (.ishr, 1) := by decide +kernel
theorem dL_act_657 : decode cL_act 657 = .ok (.sipush 256, 3) := by decide +kernel
theorem dL_act_660 : decode cL_act 660 = .ok (.invokestatic 19, 3) := by decide +kernel
theorem dL_act_663 : decode cL_act 663 = .ok (.iastore, 1) := by decide +kernel
theorem dL_act_664 : decode cL_act 664 = .ok (.aload_n 0, 1) := by decide +kernel
theorem dL_act_665 : decode cL_act 665 = .ok (.iload 5, 2) := by decide +kernel
theorem dL_act_667 : decode cL_act 667 = .ok (.aload 6, 2) := by decide +kernel
theorem dL_act_669 : decode cL_act 669 = .ok (.iconst 4, 1) := by decide +kernel
theorem dL_act_670 : decode cL_act 670 = .ok (.iaload, 1) := by decide +kernel
theorem dL_act_671 : decode cL_act 671 = .ok (.invokevirtual 84, 3) := by decide +kernel
theorem dL_act_674 : decode cL_act 674 = .ok (.iload 15, 2) := by decide +kernel
theorem dL_act_676 : decode cL_act 676 = .ok (.if_icmp .ne 7, 3) := by decide +kernel
theorem dL_act_679 : decode cL_act 679 = .ok (.iconst 1, 1) := by decide +kernel
theorem dL_act_680 : decode cL_act 680 = .ok (.goto 4, 3) := by decide +kernel
theorem dL_act_683 : decode cL_act 683 = .ok (.iconst 0, 1) := by decide +kernel
theorem dL_act_684 : decode cL_act 684 = .ok (.ireturn, 1) := by decide +kernel
theorem dL_act_685 : decode cL_act 685 = .ok (.aload 6, 2) := by decide +kernel
theorem dL_act_687 : decode cL_act 687 = .ok (.iconst 5, 1) := by decide +kernel
theorem dL_act_688 : decode cL_act 688 = .ok (.iaload, 1) := by decide +kernel
theorem dL_act_689 : decode cL_act 689 = .ok (.istore 16, 2) := by decide +kernel
theorem dL_act_691 : decode cL_act 691 = .ok (.aload 6, 2) := by decide +kernel
theorem dL_act_693 : decode cL_act 693 = .ok (.iconst 5, 1) := by decide +kernel
theorem dL_act_694 : decode cL_act 694 = .ok (.iload_n 2, 1) := by decide +kernel
theorem dL_act_695 : decode cL_act 695 = .ok (.bipush 8, 2) := by decide +kernel
theorem dL_act_697 : decode cL_act 697 = .ok (.ishr, 1) := by decide +kernel
theorem dL_act_698 : decode cL_act 698 = .ok (.bipush 9, 2) := by decide +kernel
theorem dL_act_700 : decode cL_act 700 = .ok (.invokestatic 19, 3) := by decide +kernel
theorem dL_act_703 : decode cL_act 703 = .ok (.iastore, 1) := by decide +kernel
theorem dL_act_704 : decode cL_act 704 = .ok (.aload 6, 2) := by decide +kernel
theorem dL_act_706 : decode cL_act 706 = .ok (.bipush 6, 2) := by decide +kernel
theorem dL_act_708 : decode cL_act 708 = .ok (.iload_n 2, 1) := by decide +kernel
theorem dL_act_709 : decode cL_act 709 = .ok (.bipush 9, 2) := by decide +kernel
theorem dL_act_711 : decode cL_act 711 = .ok (.ishr, 1) := by decide +kernel
theorem dL_act_712 : decode cL_act 712 = .ok (.iconst 4, 1) := by decide +kernel
theorem dL_act_713 : decode cL_act 713 = .ok (.invokestatic 19, 3) := by decide +kernel
theorem dL_act_716 : decode cL_act 716 = .ok (.ifCond .ne 7, 3) := by decide +kernel
theorem dL_act_719 : decode cL_act 719 = .ok (.iconst 1, 1) := by decide +kernel
theorem dL_act_720 : decode cL_act 720 = .ok (.goto 4, 3) := by decide +kernel
theorem dL_act_723 : decode cL_act 723 = .ok (.iconst 0, 1) := by decide +kernel
theorem dL_act_724 : decode cL_act 724 = .ok (.iastore, 1) := by decide +kernel
theorem dL_act_725 : decode cL_act 725 = .ok (.aload_n 0, 1) := by decide +kernel
theorem dL_act_726 : decode cL_act 726 = .ok (.iload 5, 2) := by decide +kernel
theorem dL_act_728 : decode cL_act 728 = .ok (.aload 6, 2) := by decide +kernel
theorem dL_act_730 : decode cL_act 730 = .ok (.iconst 5, 1) := by decide +kernel
theorem dL_act_731 : decode cL_act 731 = .ok (.iaload, 1) := by decide +kernel
theorem dL_act_732 : decode cL_act 732 = .ok (.aload 6, 2) := by decide +kernel
theorem dL_act_734 : decode cL_act 734 = .ok (.bipush 6, 2) := by decide +kernel
theorem dL_act_736 : decode cL_act 736 = .ok (.iaload, 1) := by decide +kernel
theorem dL_act_737 : decode cL_act 737 = .ok (.iconst 1, 1) := by decide +kernel
theorem dL_act_738 : decode cL_act 738 = .ok (.if_icmp .ne 7, 3) := by decide +kernel
theorem dL_act_741 : decode cL_act 741 = .ok (.iconst 1, 1) := by decide +kernel
theorem dL_act_742 : decode cL_act 742 = .ok (.goto 4, 3) := by decide +kernel
theorem dL_act_745 : decode cL_act 745 = .ok (.iconst 0, 1) := by decide +kernel
theorem dL_act_746 : decode cL_act 746 = .ok (.invokevirtual 87, 3) := by decide +kernel
theorem dL_act_749 : decode cL_act 749 = .ok (.iload 16, 2) := by decide +kernel
theorem dL_act_751 : decode cL_act 751 = .ok (.if_icmp .ne 7, 3) := by decide +kernel
theorem dL_act_754 : decode cL_act 754 = .ok (.iconst 1, 1) := by decide +kernel
theorem dL_act_755 : decode cL_act 755 = .ok (.goto 4, 3) := by decide +kernel
theorem dL_act_758 : decode cL_act 758 = .ok (.iconst 0, 1) := by decide +kernel
theorem dL_act_759 : decode cL_act 759 = .ok (.ireturn, 1) := by decide +kernel
theorem dL_act_760 : decode cL_act 760 = .ok (.aload 6, 2) := by decide +kernel
theorem dL_act_762 : decode cL_act 762 = .ok (.bipush 10, 2) := by decide +kernel
theorem dL_act_764 : decode cL_act 764 = .ok (.iaload, 1) := by decide +kernel
theorem dL_act_765 : decode cL_act 765 = .ok (.ifCond .le 7, 3) := by decide +kernel
theorem dL_act_768 : decode cL_act 768 = .ok (.iconst 1, 1) := by decide +kernel
theorem dL_act_769 : decode cL_act 769 = .ok (.goto 4, 3) := by decide +kernel
theorem dL_act_772 : decode cL_act 772 = .ok (.iconst 0, 1) := by decide +kernel
theorem dL_act_773 : decode cL_act 773 = .ok (.istore 17, 2) := by decide +kernel
theorem dL_act_775 : decode cL_act 775 = .ok (.iconst 4, 1) := by decide +kernel
theorem dL_act_776 : decode cL_act 776 = .ok (.newarray .int, 2) := by decide +kernel
theorem dL_act_778 : decode cL_act 778 = .ok (.dup, 1) := by decide +kernel
theorem dL_act_779 : decode cL_act 779 = .ok (.iconst 0, 1) := by decide +kernel
theorem dL_act_780 : decode cL_act 780 = .ok (.iload 7, 2) := by decide +kernel
theorem dL_act_782 : decode cL_act 782 = .ok (.iconst 5, 1) := by decide +kernel
theorem dL_act_783 : decode cL_act 783 = .ok (.isub, 1) := by decide +kernel
theorem dL_act_784 : decode cL_act 784 = .ok (.iastore, 1) := by decide +kernel
theorem dL_act_785 : decode cL_act 785 = .ok (.dup, 1) := by decide +kernel
theorem dL_act_786 : decode cL_act 786 = .ok (.iconst 1, 1) := by decide +kernel
theorem dL_act_787 : decode cL_act 787 = .ok (.iload 8, 2) := by decide +kernel
theorem dL_act_789 : decode cL_act 789 = .ok (.iconst 5, 1) := by decide +kernel
theorem dL_act_790 : decode cL_act 790 = .ok (.isub, 1) := by decide +kernel
theorem dL_act_791 : decode cL_act 791 = .ok (.iastore, 1) := by decide +kernel
theorem dL_act_792 : decode cL_act 792 = .ok (.dup, 1) := by decide +kernel
theorem dL_act_793 : decode cL_act 793 = .ok (.iconst 2, 1) := by decide +kernel
theorem dL_act_794 : decode cL_act 794 = .ok (.iload_n 2, 1) := by decide +kernel
theorem dL_act_795 : decode cL_act 795 = .ok (.bipush 8, 2) := by decide +kernel
theorem dL_act_797 : decode cL_act 797 = .ok (.ishr, 1) := by decide +kernel
theorem dL_act_798 : decode cL_act 798 = .ok (.iconst 5, 1) := by decide +kernel
theorem dL_act_799 : decode cL_act 799 = .ok (.invokestatic 19, 3) := by decide +kernel
theorem dL_act_802 : decode cL_act 802 = .ok (.ifCond .ne 7, 3) := by decide +kernel
theorem dL_act_805 : decode cL_act 805 = .ok (.iconst 0, 1) := by decide +kernel
theorem dL_act_806 : decode cL_act 806 = .ok (.goto 14, 3) := by decide +kernel
theorem dL_act_809 : decode cL_act 809 = .ok (.iconst 1, 1) := by decide +kernel
theorem dL_act_810 : decode cL_act 810 = .ok (.iload_n 2, 1) := by decide +kernel
theorem dL_act_811 : decode cL_act 811 = .ok (.bipush 9, 2) := by decide +kernel
theorem dL_act_813 : decode cL_act 813 = .ok (.ishr, 1) := by decide +kernel
theorem dL_act_814 : decode cL_act 814 = .ok (.bipush 60, 2) := by decide +kernel
theorem dL_act_816 : decode cL_act 816 = .ok (.invokestatic 19, 3) := by decide +kernel
theorem dL_act_819 : decode cL_act 819 = .ok (.iadd, 1) := by decide +kernel
theorem dL_act_820 : decode cL_act 820 = .ok (.iastore, 1) := by decide +kernel
theorem dL_act_821 : decode cL_act 821 = .ok (.dup, 1) := by decide +kernel
theorem dL_act_822 : decode cL_act 822 = .ok (.iconst 3, 1) := by decide +kernel
theorem dL_act_823 : decode cL_act 823 = .ok (.iload_n 2, 1) := by decide +kernel
theorem dL_act_824 : decode cL_act 824 = .ok (.bipush 7, 2) := by decide +kernel
theorem dL_act_826 : decode cL_act 826 = .ok (.ishr, 1) := by decide +kernel
theorem dL_act_827 : decode cL_act 827 = .ok (.bipush 50, 2) := by decide +kernel
theorem dL_act_829 : decode cL_act 829 = .ok (.invokestatic 19, 3) := by decide +kernel
theorem dL_act_832 : decode cL_act 832 = .ok (.iastore, 1) := by decide +kernel
theorem dL_act_833 : decode cL_act 833 = .ok (.astore 18, 2) := by decide +kernel
theorem dL_act_835 : decode cL_act 835 = .ok (.iconst 0, 1) := by decide +kernel
theorem dL_act_836 : decode cL_act 836 = .ok (.istore 19, 2) := by decide +kernel
theorem dL_act_838 : decode cL_act 838 = .ok (.iload 19, 2) := by decide +kernel
theorem dL_act_840 : decode cL_act 840 = .ok (.iconst 4, 1) := by decide +kernel
theorem dL_act_841 : decode cL_act 841 = .ok (.if_icmp .ge 22, 3) := by decide +kernel
theorem dL_act_844 : decode cL_act 844 = .ok (.aload 6, 2) := by decide +kernel
theorem dL_act_846 : decode cL_act 846 = .ok (.bipush 8, 2) := by decide +kernel
theorem dL_act_848 : decode cL_act 848 = .ok (.iload 19, 2) := by decide +kernel
theorem dL_act_850 : decode cL_act 850 = .ok (.iadd, 1) := by decide +kernel
theorem dL_act_851 : decode cL_act 851 = .ok (.aload 18, 2) := by decide +kernel
theorem dL_act_853 : decode cL_act 853 = .ok (.iload 19, 2) := by decide +kernel
theorem dL_act_855 : decode cL_act 855 = .ok (.iaload, 1) := by decide +kernel
theorem dL_act_856 : decode cL_act 856 = .ok (.iastore, 1) := by decide +kernel
theorem dL_act_857 : decode cL_act 857 = .ok (.iinc 19 1, 3) := by decide +kernel
theorem dL_act_860 : decode cL_act 860 = .ok (.goto (-22), 3) := by decide +kernel
theorem dL_act_863 : decode cL_act 863 = .ok (.aload_n 0, 1) := by decide +kernel
theorem dL_act_864 : decode cL_act 864 = .ok (.iload 5, 2) := by decide +kernel
theorem dL_act_866 : decode cL_act 866 = .ok (.aload 18, 2) := by decide +kernel
theorem dL_act_868 : decode cL_act 868 = .ok (.iconst 0, 1) := by decide +kernel
theorem dL_act_869 : decode cL_act 869 = .ok (.iaload, 1) := by decide +kernel
theorem dL_act_870 : decode cL_act 870 = .ok (.aload 18, 2) := by decide +kernel
theorem dL_act_872 : decode cL_act 872 = .ok (.iconst 1, 1) := by decide +kernel
theorem dL_act_873 : decode cL_act 873 = .ok (.iaload, 1) := by decide +kernel
theorem dL_act_874 : decode cL_act 874 = .ok (.aload 18, 2) := by decide +kernel
theorem dL_act_876 : decode cL_act 876 = .ok (.iconst 2, 1) := by decide +kernel
theorem dL_act_877 : decode cL_act 877 = .ok (.iaload, 1) := by decide +kernel
theorem dL_act_878 : decode cL_act 878 = .ok (.aload 18, 2) := by decide +kernel
theorem dL_act_880 : decode cL_act 880 = .ok (.iconst 3, 1) := by decide +kernel
theorem dL_act_881 : decode cL_act 881 = .ok (.iaload, 1) := by decide +kernel
theorem dL_act_882 : decode cL_act 882 = .ok (.invokevirtual 91, 3) := by decide +kernel
theorem dL_act_885 : decode cL_act 885 = .ok (.iload 17, 2) := by decide +kernel
theorem dL_act_887 : decode cL_act 887 = .ok (.if_icmp .ne 7, 3) := by decide +kernel
theorem dL_act_890 : decode cL_act 890 = .ok (.iconst 1, 1) := by decide +kernel
theorem dL_act_891 : decode cL_act 891 = .ok (.goto 4, 3) := by decide +kernel
theorem dL_act_894 : decode cL_act 894 = .ok (.iconst 0, 1) := by decide +kernel
theorem dL_act_895 : decode cL_act 895 = .ok (.ireturn, 1) := by decide +kernel
theorem dL_act_896 : decode cL_act 896 = .ok (.aload_n 1, 1) := by decide +kernel
theorem dL_act_897 : decode cL_act 897 = .ok (.getfield 15, 3) := by decide +kernel
theorem dL_act_900 : decode cL_act 900 = .ok (.iload 4, 2) := by decide +kernel
theorem dL_act_902 : decode cL_act 902 = .ok (.aaload, 1) := by decide +kernel
theorem dL_act_903 : decode cL_act 903 = .ok (.bipush 7, 2) := by decide +kernel
theorem dL_act_905 : decode cL_act 905 = .ok (.iaload, 1) := by decide +kernel
theorem dL_act_906 : decode cL_act 906 = .ok (.iconst 1, 1) := by decide +kernel
theorem dL_act_907 : decode cL_act 907 = .ok (.if_icmp .ne 7, 3) := by decide +kernel
theorem dL_act_910 : decode cL_act 910 = .ok (.iconst 1, 1) := by decide +kernel
theorem dL_act_911 : decode cL_act 911 = .ok (.goto 4, 3) := by decide +kernel
theorem dL_act_914 : decode cL_act 914 = .ok (.iconst 0, 1) := by decide +kernel
theorem dL_act_915 : decode cL_act 915 = .ok (.istore 19, 2) := by decide +kernel
theorem dL_act_917 : decode cL_act 917 = .ok (.aload_n 1, 1) := by decide +kernel
theorem dL_act_918 : decode cL_act 918 = .ok (.getfield 15, 3) := by decide +kernel
theorem dL_act_921 : decode cL_act 921 = .ok (.iload 4, 2) := by decide +kernel
theorem dL_act_923 : decode cL_act 923 = .ok (.aaload, 1) := by decide +kernel
theorem dL_act_924 : decode cL_act 924 = .ok (.bipush 7, 2) := by decide +kernel
theorem dL_act_926 : decode cL_act 926 = .ok (.iload_n 2, 1) := by decide +kernel
theorem dL_act_927 : decode cL_act 927 = .ok (.bipush 8, 2) := by decide +kernel
theorem dL_act_929 : decode cL_act 929 = .ok (.ishr, 1) := by decide +kernel
theorem dL_act_930 : decode cL_act 930 = .ok (.iconst 2, 1) := by decide +kernel
theorem dL_act_931 : decode cL_act 931 = .ok (.invokestatic 19, 3) := by decide +kernel
theorem dL_act_934 : decode cL_act 934 = .ok (.iastore, 1) := by decide +kernel
theorem dL_act_935 : decode cL_act 935 = .ok (.aload_n 0, 1) := by decide +kernel
theorem dL_act_936 : decode cL_act 936 = .ok (.iload 4, 2) := by decide +kernel
theorem dL_act_938 : decode cL_act 938 = .ok (.aload_n 1, 1) := by decide +kernel
theorem dL_act_939 : decode cL_act 939 = .ok (.getfield 15, 3) := by decide +kernel
theorem dL_act_942 : decode cL_act 942 = .ok (.iload 4, 2) := by decide +kernel
theorem dL_act_944 : decode cL_act 944 = .ok (.aaload, 1) := by decide +kernel
theorem dL_act_945 : decode cL_act 945 = .ok (.bipush 7, 2) := by decide +kernel
theorem dL_act_947 : decode cL_act 947 = .ok (.iaload, 1) := by decide +kernel
theorem dL_act_948 : decode cL_act 948 = .ok (.iconst 1, 1) := by decide +kernel
theorem dL_act_949 : decode cL_act 949 = .ok (.if_icmp .ne 7, 3) := by decide +kernel
theorem dL_act_952 : decode cL_act 952 = .ok (.iconst 1, 1) := by decide +kernel
theorem dL_act_953 : decode cL_act 953 = .ok (.goto 4, 3) := by decide +kernel
theorem dL_act_956 : decode cL_act 956 = .ok (.iconst 0, 1) := by decide +kernel
theorem dL_act_957 : decode cL_act 957 = .ok (.invokevirtual 95, 3) := by decide +kernel
theorem dL_act_960 : decode cL_act 960 = .ok (.iload 19, 2) := by decide +kernel
theorem dL_act_962 : decode cL_act 962 = .ok (.if_icmp .ne 7, 3) := by decide +kernel
theorem dL_act_965 : decode cL_act 965 = .ok (.iconst 1, 1) := by decide +kernel
theorem dL_act_966 : decode cL_act 966 = .ok (.goto 4, 3) := by decide +kernel
theorem dL_act_969 : decode cL_act 969 = .ok (.iconst 0, 1) := by decide +kernel
theorem dL_act_970 : decode cL_act 970 = .ok (.ireturn, 1) := by decide +kernel
theorem dL_act_971 : decode cL_act 971 = .ok (.aload_n 1, 1) := by decide +kernel
theorem dL_act_972 : decode cL_act 972 = .ok (.getfield 99, 3) := by decide +kernel
theorem dL_act_975 : decode cL_act 975 = .ok (.istore 20, 2) := by decide +kernel
theorem dL_act_977 : decode cL_act 977 = .ok (.aload_n 1, 1) := by decide +kernel
theorem dL_act_978 : decode cL_act 978 = .ok (.iload_n 2, 1) := by decide +kernel
theorem dL_act_979 : decode cL_act 979 = .ok (.bipush 8, 2) := by decide +kernel
theorem dL_act_981 : decode cL_act 981 = .ok (.ishr, 1) := by decide +kernel
theorem dL_act_982 : decode cL_act 982 = .ok (.sipush 256, 3) := by decide +kernel
theorem dL_act_985 : decode cL_act 985 = .ok (.invokestatic 19, 3) := by decide +kernel
theorem dL_act_988 : decode cL_act 988 = .ok (.putfield 99, 3) := by decide +kernel
theorem dL_act_991 : decode cL_act 991 = .ok (.aload_n 0, 1) := by decide +kernel
theorem dL_act_992 : decode cL_act 992 = .ok (.aload_n 1, 1) := by decide +kernel
theorem dL_act_993 : decode cL_act 993 = .ok (.getfield 99, 3) := by decide +kernel
theorem dL_act_996 : decode cL_act 996 = .ok (.invokevirtual 102, 3) := by decide +kernel
theorem dL_act_999 : decode cL_act 999 = .ok (.iload 20, 2) := by decide +kernel
theorem dL_act_1001 : decode cL_act 1001 = .ok (.if_icmp .ne 7, 3) := by decide +kernel
theorem dL_act_1004 : decode cL_act 1004 = .ok (.iconst 1, 1) := by decide +kernel
theorem dL_act_1005 : decode cL_act 1005 = .ok (.goto 4, 3) := by decide +kernel
theorem dL_act_1008 : decode cL_act 1008 = .ok (.iconst 0, 1) := by decide +kernel
theorem dL_act_1009 : decode cL_act 1009 = .ok (.ireturn, 1) := by decide +kernel
