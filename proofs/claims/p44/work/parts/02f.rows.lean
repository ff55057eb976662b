theorem dL_act_569 : decode cL_act 569 = .ok (.iconst 0, 1) := by decide +kernel
theorem dL_act_570 : decode cL_act 570 = .ok (.istore 7, 2) := by decide +kernel
theorem dL_act_572 : decode cL_act 572 = .ok (.aload_n 1, 1) := by decide +kernel
theorem dL_act_573 : decode cL_act 573 = .ok (.getfield 25, 3) := by decide +kernel
theorem dL_act_576 : decode cL_act 576 = .ok (.astore 8, 2) := by decide +kernel
theorem dL_act_578 : decode cL_act 578 = .ok (.aload 8, 2) := by decide +kernel
theorem dL_act_580 : decode cL_act 580 = .ok (.arraylength, 1) := by decide +kernel
theorem dL_act_581 : decode cL_act 581 = .ok (.istore 9, 2) := by decide +kernel
theorem dL_act_583 : decode cL_act 583 = .ok (.iconst 0, 1) := by decide +kernel
theorem dL_act_584 : decode cL_act 584 = .ok (.istore 10, 2) := by decide +kernel
theorem dL_act_586 : decode cL_act 586 = .ok (.iload 10, 2) := by decide +kernel
theorem dL_act_588 : decode cL_act 588 = .ok (.iload 9, 2) := by decide +kernel
theorem dL_act_590 : decode cL_act 590 = .ok (.if_icmp .ge 51, 3) := by decide +kernel
theorem dL_act_593 : decode cL_act 593 = .ok (.aload 8, 2) := by decide +kernel
theorem dL_act_595 : decode cL_act 595 = .ok (.iload 10, 2) := by decide +kernel
theorem dL_act_597 : decode cL_act 597 = .ok (.aaload, 1) := by decide +kernel
theorem dL_act_598 : decode cL_act 598 = .ok (.astore 11, 2) := by decide +kernel
theorem dL_act_600 : decode cL_act 600 = .ok (.aload 11, 2) := by decide +kernel
theorem dL_act_602 : decode cL_act 602 = .ok (.iconst 0, 1) := by decide +kernel
theorem dL_act_603 : decode cL_act 603 = .ok (.iaload, 1) := by decide +kernel
theorem dL_act_604 : decode cL_act 604 = .ok (.iload_n 3, 1) := by decide +kernel
theorem dL_act_605 : decode cL_act 605 = .ok (.if_icmp .eq 6, 3) := by decide +kernel
theorem dL_act_608 : decode cL_act 608 = .ok (.goto 27, 3) := by decide +kernel
theorem dL_act_611 : decode cL_act 611 = .ok (.aload 11, 2) := by decide +kernel
theorem dL_act_613 : decode cL_act 613 = .ok (.iconst 3, 1) := by decide +kernel
theorem dL_act_614 : decode cL_act 614 = .ok (.iconst 0, 1) := by decide +kernel
theorem dL_act_615 : decode cL_act 615 = .ok (.iastore, 1) := by decide +kernel
theorem dL_act_616 : decode cL_act 616 = .ok (.iload 7, 2) := by decide +kernel
theorem dL_act_618 : decode cL_act 618 = .ok (.aload_n 1, 1) := by decide +kernel
theorem dL_act_619 : decode cL_act 619 = .ok (.aload 11, 2) := by decide +kernel
theorem dL_act_621 : decode cL_act 621 = .ok (.invokevirtual 60, 3) := by decide +kernel
theorem dL_act_624 : decode cL_act 624 = .ok (.ifCond .eq 7, 3) := by decide +kernel
theorem dL_act_627 : decode cL_act 627 = .ok (.iconst 1, 1) := by decide +kernel
theorem dL_act_628 : decode cL_act 628 = .ok (.goto 4, 3) := by decide +kernel
theorem dL_act_631 : decode cL_act 631 = .ok (.iconst 0, 1) := by decide +kernel
theorem dL_act_632 : decode cL_act 632 = .ok (.iadd, 1) := by decide +kernel
theorem dL_act_633 : decode cL_act 633 = .ok (.istore 7, 2) := by decide +kernel
theorem dL_act_635 : decode cL_act 635 = .ok (.iinc 10 1, 3) := by decide +kernel
theorem dL_act_638 : decode cL_act 638 = .ok (.goto (-52), 3) := by decide +kernel
theorem dL_act_641 : decode cL_act 641 = .ok (.aload_n 0, 1) := by decide +kernel
theorem dL_act_642 : decode cL_act 642 = .ok (.iload_n 3, 1) := by decide +kernel
theorem dL_act_643 : decode cL_act 643 = .ok (.invokevirtual 57, 3) := by decide +kernel
theorem dL_act_646 : decode cL_act 646 = .ok (.iload 7, 2) := by decide +kernel
theorem dL_act_648 : decode cL_act 648 = .ok (.if_icmp .ne 7, 3) := by decide +kernel
theorem dL_act_651 : decode cL_act 651 = .ok (.iconst 1, 1) := by decide +kernel
theorem dL_act_652 : decode cL_act 652 = .ok (.goto 4, 3) := by decide +kernel
theorem dL_act_655 : decode cL_act 655 = .ok (.iconst 0, 1) := by decide +kernel
theorem dL_act_656 : decode cL_act 656 = .ok (.ireturn, 1) := by decide +kernel
theorem dL_act_657 : decode cL_act 657 = .ok (.iload 6, 2) := by decide +kernel
theorem dL_act_659 : decode cL_act 659 = .ok (.ifCond .eq 11, 3) := by decide +kernel
theorem dL_act_662 : decode cL_act 662 = .ok (.aload_n 0, 1) := by decide +kernel
theorem dL_act_663 : decode cL_act 663 = .ok (.iload_n 3, 1) := by decide +kernel
theorem dL_act_664 : decode cL_act 664 = .ok (.invokevirtual 64, 3) := by decide +kernel
theorem dL_act_667 : decode cL_act 667 = .ok (.pop, 1) := by decide +kernel
theorem dL_act_668 : decode cL_act 668 = .ok (.iconst 0, 1) := by decide +kernel
theorem dL_act_669 : decode cL_act 669 = .ok (.ireturn, 1) := by decide +kernel
theorem dL_act_670 : decode cL_act 670 = .ok (.aload_n 1, 1) := by decide +kernel
theorem dL_act_671 : decode cL_act 671 = .ok (.getfield 67, 3) := by decide +kernel
theorem dL_act_674 : decode cL_act 674 = .ok (.astore 7, 2) := by decide +kernel
theorem dL_act_676 : decode cL_act 676 = .ok (.aload 7, 2) := by decide +kernel
theorem dL_act_678 : decode cL_act 678 = .ok (.arraylength, 1) := by decide +kernel
theorem dL_act_679 : decode cL_act 679 = .ok (.istore 8, 2) := by decide +kernel
theorem dL_act_681 : decode cL_act 681 = .ok (.iconst 0, 1) := by decide +kernel
theorem dL_act_682 : decode cL_act 682 = .ok (.istore 9, 2) := by decide +kernel
theorem dL_act_684 : decode cL_act 684 = .ok (.iload 9, 2) := by decide +kernel
theorem dL_act_686 : decode cL_act 686 = .ok (.iload 8, 2) := by decide +kernel
theorem dL_act_688 : decode cL_act 688 = .ok (.if_icmp .ge 51, 3) := by decide +kernel
theorem dL_act_691 : decode cL_act 691 = .ok (.aload 7, 2) := by decide +kernel
theorem dL_act_693 : decode cL_act 693 = .ok (.iload 9, 2) := by decide +kernel
theorem dL_act_695 : decode cL_act 695 = .ok (.aaload, 1) := by decide +kernel
theorem dL_act_696 : decode cL_act 696 = .ok (.astore 10, 2) := by decide +kernel
theorem dL_act_698 : decode cL_act 698 = .ok (.aload 10, 2) := by decide +kernel
theorem dL_act_700 : decode cL_act 700 = .ok (.iconst 1, 1) := by decide +kernel
theorem dL_act_701 : decode cL_act 701 = .ok (.iaload, 1) := by decide +kernel
theorem dL_act_702 : decode cL_act 702 = .ok (.iload_n 3, 1) := by decide +kernel
theorem dL_act_703 : decode cL_act 703 = .ok (.if_icmp .ne 30, 3) := by decide +kernel
theorem dL_act_706 : decode cL_act 706 = .ok (.aload_n 1, 1) := by decide +kernel
theorem dL_act_707 : decode cL_act 707 = .ok (.getfield 21, 3) := by decide +kernel
theorem dL_act_710 : decode cL_act 710 = .ok (.aload 10, 2) := by decide +kernel
theorem dL_act_712 : decode cL_act 712 = .ok (.iconst 0, 1) := by decide +kernel
theorem dL_act_713 : decode cL_act 713 = .ok (.iaload, 1) := by decide +kernel
theorem dL_act_714 : decode cL_act 714 = .ok (.iaload, 1) := by decide +kernel
theorem dL_act_715 : decode cL_act 715 = .ok (.bipush 9, 2) := by decide +kernel
theorem dL_act_717 : decode cL_act 717 = .ok (.if_icmp .ge 16, 3) := by decide +kernel
theorem dL_act_720 : decode cL_act 720 = .ok (.aload_n 1, 1) := by decide +kernel
theorem dL_act_721 : decode cL_act 721 = .ok (.getfield 21, 3) := by decide +kernel
theorem dL_act_724 : decode cL_act 724 = .ok (.aload 10, 2) := by decide +kernel
theorem dL_act_726 : decode cL_act 726 = .ok (.iconst 0, 1) := by decide +kernel
theorem dL_act_727 : decode cL_act 727 = .ok (.iaload, 1) := by decide +kernel
theorem dL_act_728 : decode cL_act 728 = .ok (.dup2, 1) := by decide +kernel
theorem dL_act_729 : decode cL_act 729 = .ok (.iaload, 1) := by decide +kernel
theorem dL_act_730 : decode cL_act 730 = .ok (.iconst 1, 1) := by decide +kernel
theorem dL_act_731 : decode cL_act 731 = .ok (.iadd, 1) := by decide +kernel
theorem dL_act_732 : decode cL_act 732 = .ok (.iastore, 1) := by decide +kernel
theorem dL_act_733 : decode cL_act 733 = .ok (.iinc 9 1, 3) := by decide +kernel
theorem dL_act_736 : decode cL_act 736 = .ok (.goto (-52), 3) := by decide +kernel
theorem dL_act_739 : decode cL_act 739 = .ok (.aload_n 1, 1) := by decide +kernel
theorem dL_act_740 : decode cL_act 740 = .ok (.iload_n 3, 1) := by decide +kernel
theorem dL_act_741 : decode cL_act 741 = .ok (.invokevirtual 70, 3) := by decide +kernel
theorem dL_act_744 : decode cL_act 744 = .ok (.aload_n 1, 1) := by decide +kernel
theorem dL_act_745 : decode cL_act 745 = .ok (.getfield 9, 3) := by decide +kernel
theorem dL_act_748 : decode cL_act 748 = .ok (.iload_n 3, 1) := by decide +kernel
theorem dL_act_749 : decode cL_act 749 = .ok (.aaload, 1) := by decide +kernel
theorem dL_act_750 : decode cL_act 750 = .ok (.iconst 1, 1) := by decide +kernel
theorem dL_act_751 : decode cL_act 751 = .ok (.iconst 0, 1) := by decide +kernel
theorem dL_act_752 : decode cL_act 752 = .ok (.iastore, 1) := by decide +kernel
theorem dL_act_753 : decode cL_act 753 = .ok (.aload_n 0, 1) := by decide +kernel
theorem dL_act_754 : decode cL_act 754 = .ok (.iload_n 3, 1) := by decide +kernel
theorem dL_act_755 : decode cL_act 755 = .ok (.invokevirtual 64, 3) := by decide +kernel
theorem dL_act_758 : decode cL_act 758 = .ok (.aload_n 1, 1) := by decide +kernel
theorem dL_act_759 : decode cL_act 759 = .ok (.getfield 9, 3) := by decide +kernel
theorem dL_act_762 : decode cL_act 762 = .ok (.iload_n 3, 1) := by decide +kernel
theorem dL_act_763 : decode cL_act 763 = .ok (.aaload, 1) := by decide +kernel
theorem dL_act_764 : decode cL_act 764 = .ok (.iconst 2, 1) := by decide +kernel
theorem dL_act_765 : decode cL_act 765 = .ok (.iaload, 1) := by decide +kernel
theorem dL_act_766 : decode cL_act 766 = .ok (.if_icmp .ne 7, 3) := by decide +kernel
theorem dL_act_769 : decode cL_act 769 = .ok (.iconst 1, 1) := by decide +kernel
theorem dL_act_770 : decode cL_act 770 = .ok (.goto 4, 3) := by decide +kernel
theorem dL_act_773 : decode cL_act 773 = .ok (.iconst 0, 1) := by decide +kernel
theorem dL_act_774 : decode cL_act 774 = .ok (.ireturn, 1) := by decide +kernel
theorem dL_act_775 : decode cL_act 775 = .ok (.aload_n 1, 1) := by decide +kernel
theorem dL_act_776 : decode cL_act 776 = .ok (.getfield 21, 3) := by decide +kernel
theorem dL_act_779 : decode cL_act 779 = .ok (.arraylength, 1) := by decide +kernel
theorem dL_act_780 : decode cL_act 780 = .ok (.ifCond .ne 5, 3) := by decide +kernel
theorem dL_act_783 : decode cL_act 783 = .ok (.iconst 1, 1) := by decide +kernel
theorem dL_act_784 : decode cL_act 784 = .ok (.ireturn, 1) := by decide +kernel
theorem dL_act_785 : decode cL_act 785 = .ok (.iload 6, 2) := by decide +kernel
theorem dL_act_787 : decode cL_act 787 = .ok (.ifCond .eq 13, 3) := by decide +kernel
theorem dL_act_790 : decode cL_act 790 = .ok (.aload_n 0, 1) := by decide +kernel
theorem dL_act_791 : decode cL_act 791 = .ok (.iload 4, 2) := by decide +kernel
theorem dL_act_793 : decode cL_act 793 = .ok (.iload_n 3, 1) := by decide +kernel
theorem dL_act_794 : decode cL_act 794 = .ok (.invokevirtual 74, 3) := by decide +kernel
theorem dL_act_797 : decode cL_act 797 = .ok (.pop, 1) := by decide +kernel
theorem dL_act_798 : decode cL_act 798 = .ok (.iconst 0, 1) := by decide +kernel
theorem dL_act_799 : decode cL_act 799 = .ok (.ireturn, 1) := by decide +kernel
theorem dL_act_800 : decode cL_act 800 = .ok (.aload_n 1, 1) := by decide +kernel
theorem dL_act_801 : decode cL_act 801 = .ok (.aload_n 1, 1) := by decide +kernel
theorem dL_act_802 : decode cL_act 802 = .ok (.getfield 67, 3) := by decide +kernel
theorem dL_act_805 : decode cL_act 805 = .ok (.iconst 3, 1) := by decide +kernel
theorem dL_act_806 : decode cL_act 806 = .ok (.newarray .int, 2) := by decide +kernel
theorem dL_act_808 : decode cL_act 808 = .ok (.dup, 1) := by decide +kernel
theorem dL_act_809 : decode cL_act 809 = .ok (.iconst 0, 1) := by decide +kernel
theorem dL_act_810 : decode cL_act 810 = .ok (.iload 4, 2) := by decide +kernel
theorem dL_act_812 : decode cL_act 812 = .ok (.iastore, 1) := by decide +kernel
theorem dL_act_813 : decode cL_act 813 = .ok (.dup, 1) := by decide +kernel
theorem dL_act_814 : decode cL_act 814 = .ok (.iconst 1, 1) := by decide +kernel
theorem dL_act_815 : decode cL_act 815 = .ok (.iload_n 3, 1) := by decide +kernel
theorem dL_act_816 : decode cL_act 816 = .ok (.iastore, 1) := by decide +kernel
theorem dL_act_817 : decode cL_act 817 = .ok (.dup, 1) := by decide +kernel
theorem dL_act_818 : decode cL_act 818 = .ok (.iconst 2, 1) := by decide +kernel
theorem dL_act_819 : decode cL_act 819 = .ok (.iconst 0, 1) := by decide +kernel
theorem dL_act_820 : decode cL_act 820 = .ok (.iastore, 1) := by decide +kernel
theorem dL_act_821 : decode cL_act 821 = .ok (.invokestatic 38, 3) := by decide +kernel
theorem dL_act_824 : decode cL_act 824 = .ok (.putfield 67, 3) := by decide +kernel
theorem dL_act_827 : decode cL_act 827 = .ok (.aload_n 1, 1) := by decide +kernel
theorem dL_act_828 : decode cL_act 828 = .ok (.iload_n 3, 1) := by decide +kernel
theorem dL_act_829 : decode cL_act 829 = .ok (.invokevirtual 78, 3) := by decide +kernel
theorem dL_act_832 : decode cL_act 832 = .ok (.iconst 5, 1) := by decide +kernel
theorem dL_act_833 : decode cL_act 833 = .ok (.if_icmp .le 12, 3) := by decide +kernel
theorem dL_act_836 : decode cL_act 836 = .ok (.aload_n 1, 1) := by decide +kernel
theorem dL_act_837 : decode cL_act 837 = .ok (.getfield 9, 3) := by decide +kernel
theorem dL_act_840 : decode cL_act 840 = .ok (.iload_n 3, 1) := by decide +kernel
theorem dL_act_841 : decode cL_act 841 = .ok (.aaload, 1) := by decide +kernel
theorem dL_act_842 : decode cL_act 842 = .ok (.iconst 3, 1) := by decide +kernel
theorem dL_act_843 : decode cL_act 843 = .ok (.iconst 1, 1) := by decide +kernel
theorem dL_act_844 : decode cL_act 844 = .ok (.iastore, 1) := by decide +kernel
theorem dL_act_845 : decode cL_act 845 = .ok (.aload_n 0, 1) := by decide +kernel
theorem dL_act_846 : decode cL_act 846 = .ok (.iload 4, 2) := by decide +kernel
theorem dL_act_848 : decode cL_act 848 = .ok (.iload_n 3, 1) := by decide +kernel
theorem dL_act_849 : decode cL_act 849 = .ok (.invokevirtual 74, 3) := by decide +kernel
theorem dL_act_852 : decode cL_act 852 = .ok (.aload_n 1, 1) := by decide +kernel
theorem dL_act_853 : decode cL_act 853 = .ok (.getfield 9, 3) := by decide +kernel
theorem dL_act_856 : decode cL_act 856 = .ok (.iload_n 3, 1) := by decide +kernel
theorem dL_act_857 : decode cL_act 857 = .ok (.aaload, 1) := by decide +kernel
theorem dL_act_858 : decode cL_act 858 = .ok (.iconst 3, 1) := by decide +kernel
theorem dL_act_859 : decode cL_act 859 = .ok (.iaload, 1) := by decide +kernel
theorem dL_act_860 : decode cL_act 860 = .ok (.iconst 1, 1) := by decide +kernel
theorem dL_act_861 : decode cL_act 861 = .ok (.if_icmp .ne 7, 3) := by decide +kernel
theorem dL_act_864 : decode cL_act 864 = .ok (.iconst 1, 1) := by decide +kernel
theorem dL_act_865 : decode cL_act 865 = .ok (.goto 4, 3) := by decide +kernel
theorem dL_act_868 : decode cL_act 868 = .ok (.iconst 0, 1) := by decide +kernel
theorem dL_act_869 : decode cL_act 869 = .ok (.if_icmp .ne 7, 3) := by decide +kernel
theorem dL_act_872 : decode cL_act 872 = .ok (.iconst 1, 1) := by decide +kernel
theorem dL_act_873 : decode cL_act 873 = .ok (.goto 4, 3) := by decide +kernel
theorem dL_act_876 : decode cL_act 876 = .ok (.iconst 0, 1) := by decide +kernel
theorem dL_act_877 : decode cL_act 877 = .ok (.ireturn, 1) := by decide +kernel
theorem dL_act_878 : decode cL_act 878 = .ok (.aload_n 1, 1) := by decide +kernel
theorem dL_act_879 : decode cL_act 879 = .ok (.getfield 25, 3) := by decide +kernel
theorem dL_act_882 : decode cL_act 882 = .ok (.arraylength, 1) := by decide +kernel
theorem dL_act_883 : decode cL_act 883 = .ok (.ifCond .ne 5, 3) := by decide +kernel
theorem dL_act_886 : decode cL_act 886 = .ok (.iconst 1, 1) := by decide +kernel
theorem dL_act_887 : decode cL_act 887 = .ok (.ireturn, 1) := by decide +kernel
theorem dL_act_888 : decode cL_act 888 = .ok (.aload_n 1, 1) := by decide +kernel
theorem dL_act_889 : decode cL_act 889 = .ok (.getfield 25, 3) := by decide +kernel
theorem dL_act_892 : decode cL_act 892 = .ok (.iload 5, 2) := by decide +kernel
theorem dL_act_894 : decode cL_act 894 = .ok (.aaload, 1) := by decide +kernel
theorem dL_act_895 : decode cL_act 895 = .ok (.astore 7, 2) := by decide +kernel
theorem dL_act_897 : decode cL_act 897 = .ok (.iload_n 2, 1) := by decide +kernel
theorem dL_act_898 : decode cL_act 898 = .ok (.bipush 9, 2) := by decide +kernel
theorem dL_act_900 : decode cL_act 900 = .ok (.ishr, 1) := by decide +kernel
theorem dL_act_901 : decode cL_act 901 = .ok (.iconst 4, 1) := by decide +kernel
theorem dL_act_902 : decode cL_act 902 = .ok (.invokestatic 15, 3) := by decide +kernel
theorem dL_act_905 : decode cL_act 905 = .ok (.ifCond .le 7, 3) := by decide +kernel
theorem dL_act_908 : decode cL_act 908 = .ok (.iconst 1, 1) := by decide +kernel
theorem dL_act_909 : decode cL_act 909 = .ok (.goto 4, 3) := by decide +kernel
theorem dL_act_912 : decode cL_act 912 = .ok (.iconst 0, 1) := by decide +kernel
theorem dL_act_913 : decode cL_act 913 = .ok (.istore 8, 2) := by decide +kernel
theorem dL_act_915 : decode cL_act 915 = .ok (.iload 6, 2) := by decide +kernel
theorem dL_act_917 : decode cL_act 917 = .ok (.ifCond .eq 14, 3) := by decide +kernel
theorem dL_act_920 : decode cL_act 920 = .ok (.aload_n 0, 1) := by decide +kernel
theorem dL_act_921 : decode cL_act 921 = .ok (.iload 5, 2) := by decide +kernel
theorem dL_act_923 : decode cL_act 923 = .ok (.iload 8, 2) := by decide +kernel
theorem dL_act_925 : decode cL_act 925 = .ok (.invokevirtual 81, 3) := by decide +kernel
theorem dL_act_928 : decode cL_act 928 = .ok (.pop, 1) := by decide +kernel
theorem dL_act_929 : decode cL_act 929 = .ok (.iconst 0, 1) := by decide +kernel
theorem dL_act_930 : decode cL_act 930 = .ok (.ireturn, 1) := by decide +kernel
theorem dL_act_931 : decode cL_act 931 = .ok (.aload 7, 2) := by decide +kernel
theorem dL_act_933 : decode cL_act 933 = .ok (.iconst 3, 1) := by decide +kernel
theorem dL_act_934 : decode cL_act 934 = .ok (.iload 8, 2) := by decide +kernel
theorem dL_act_936 : decode cL_act 936 = .ok (.ifCond .eq 7, 3) := by decide +kernel
theorem dL_act_939 : decode cL_act 939 = .ok (.iconst 1, 1) := by decide +kernel
theorem dL_act_940 : decode cL_act 940 = .ok (.goto 4, 3) := by decide +kernel
theorem dL_act_943 : decode cL_act 943 = .ok (.iconst 0, 1) := by decide +kernel
theorem dL_act_944 : decode cL_act 944 = .ok (.iastore, 1) := by decide +kernel
theorem dL_act_945 : decode cL_act 945 = .ok (.aload_n 0, 1) := by decide +kernel
theorem dL_act_946 : decode cL_act 946 = .ok (.iload 5, 2) := by decide +kernel
theorem dL_act_948 : decode cL_act 948 = .ok (.iload 8, 2) := by decide +kernel
theorem dL_act_950 : decode cL_act 950 = .ok (.invokevirtual 81, 3) := by decide +kernel
theorem dL_act_953 : decode cL_act 953 = .ok (.aload_n 1, 1) := by decide +kernel
theorem dL_act_954 : decode cL_act 954 = .ok (.aload 7, 2) := by decide +kernel
theorem dL_act_956 : decode cL_act 956 = .ok (.iconst 0, 1) := by decide +kernel
theorem dL_act_957 : decode cL_act 957 = .ok (.iaload, 1) := by decide +kernel
theorem dL_act_958 : decode cL_act 958 = .ok (.iconst 1, 1) := by decide +kernel
theorem dL_act_959 : decode cL_act 959 = .ok (.invokevirtual 85, 3) := by decide +kernel
theorem dL_act_962 : decode cL_act 962 = .ok (.if_icmp .ne 7, 3) := by decide +kernel
theorem dL_act_965 : decode cL_act 965 = .ok (.iconst 1, 1) := by decide +kernel
theorem dL_act_966 : decode cL_act 966 = .ok (.goto 4, 3) := by decide +kernel
theorem dL_act_969 : decode cL_act 969 = .ok (.iconst 0, 1) := by decide +kernel
theorem dL_act_970 : decode cL_act 970 = .ok (.ireturn, 1) := by decide +kernel
theorem dL_act_971 : decode cL_act 971 = .ok (.iconst 1, 1) := by decide +kernel
theorem dL_act_972 : decode cL_act 972 = .ok (.iload_n 2, 1) := by decide +kernel
theorem dL_act_973 : decode cL_act 973 = .ok (.bipush 7, 2) := by decide +kernel
theorem dL_act_975 : decode cL_act 975 = .ok (.ishr, 1) := by decide +kernel
theorem dL_act_976 : decode cL_act 976 = .ok (.iload_n 2, 1) := by decide +kernel
theorem dL_act_977 : decode cL_act 977 = .ok (.iconst 3, 1) := by decide +kernel
theorem dL_act_978 : decode cL_act 978 = .ok (.ishr, 1) := by decide +kernel
theorem dL_act_979 : decode cL_act 979 = .ok (.iconst 5, 1) := by decide +kernel
theorem dL_act_980 : decode cL_act 980 = .ok (.invokestatic 15, 3) := by decide +kernel
theorem dL_act_983 : decode cL_act 983 = .ok (.ifCond .ne 8, 3) := by decide +kernel
theorem dL_act_986 : decode cL_act 986 = .ok (.bipush 30, 2) := by decide +kernel
theorem dL_act_988 : decode cL_act 988 = .ok (.goto 4, 3) := by decide +kernel
theorem dL_act_991 : decode cL_act 991 = .ok (.iconst 4, 1) := by decide +kernel
theorem dL_act_992 : decode cL_act 992 = .ok (.invokestatic 15, 3) := by decide +kernel
theorem dL_act_995 : decode cL_act 995 = .ok (.iadd, 1) := by decide +kernel
theorem dL_act_996 : decode cL_act 996 = .ok (.istore 7, 2) := by decide +kernel
theorem dL_act_998 : decode cL_act 998 = .ok (.iconst 0, 1) := by decide +kernel
theorem dL_act_999 : decode cL_act 999 = .ok (.istore 8, 2) := by decide +kernel
theorem dL_act_1001 : decode cL_act 1001 = .ok (.iconst 0, 1) := by decide +kernel
theorem dL_act_1002 : decode cL_act 1002 = .ok (.istore 9, 2) := by decide +kernel
theorem dL_act_1004 : decode cL_act 1004 = .ok (.iload 9, 2) := by decide +kernel
theorem dL_act_1006 : decode cL_act 1006 = .ok (.iload 7, 2) := by decide +kernel
theorem dL_act_1008 : decode cL_act 1008 = .ok (.if_icmp .ge 18, 3) := by decide +kernel
theorem dL_act_1011 : decode cL_act 1011 = .ok (.iload 8, 2) := by decide +kernel
theorem dL_act_1013 : decode cL_act 1013 = .ok (.aload_n 1, 1) := by decide +kernel
theorem dL_act_1014 : decode cL_act 1014 = .ok (.invokevirtual 88, 3) := by decide +kernel
theorem dL_act_1017 : decode cL_act 1017 = .ok (.iadd, 1) := by decide +kernel
theorem dL_act_1018 : decode cL_act 1018 = .ok (.istore 8, 2) := by decide +kernel
theorem dL_act_1020 : decode cL_act 1020 = .ok (.iinc 9 1, 3) := by decide +kernel
theorem dL_act_1023 : decode cL_act 1023 = .ok (.goto (-19), 3) := by decide +kernel
theorem dL_act_1026 : decode cL_act 1026 = .ok (.aload_n 0, 1) := by decide +kernel
theorem dL_act_1027 : decode cL_act 1027 = .ok (.iload 7, 2) := by decide +kernel
theorem dL_act_1029 : decode cL_act 1029 = .ok (.invokevirtual 91, 3) := by decide +kernel
theorem dL_act_1032 : decode cL_act 1032 = .ok (.iload 8, 2) := by decide +kernel
theorem dL_act_1034 : decode cL_act 1034 = .ok (.if_icmp .ne 7, 3) := by decide +kernel
theorem dL_act_1037 : decode cL_act 1037 = .ok (.iconst 1, 1) := by decide +kernel
theorem dL_act_1038 : decode cL_act 1038 = .ok (.goto 4, 3) := by decide +kernel
theorem dL_act_1041 : decode cL_act 1041 = .ok (.iconst 0, 1) := by decide +kernel
theorem dL_act_1042 : decode cL_act 1042 = .ok (.ireturn, 1) := by decide +kernel
theorem dL_act_1043 : decode cL_act 1043 = .ok (.astore 7, 2) := by decide +kernel
theorem dL_act_1045 : decode cL_act 1045 = .ok (.iload 6, 2) := by decide +kernel
theorem dL_act_1047 : decode cL_act 1047 = .ok (.ireturn, 1) := by decide +kernel
