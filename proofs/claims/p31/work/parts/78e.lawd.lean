theorem dL_law_591 : decode cL_law 591 = .ok (.iconst 1, 1) := by decide +kernel
theorem dL_law_592 : decode cL_law 592 = .ok (.isub, 1) := by decide +kernel
theorem dL_law_593 : decode cL_law 593 = .ok (.goto 5, 3) := by decide +kernel
theorem dL_law_596 : decode cL_law 596 = .ok (.ldc 24, 2) := by decide +kernel
theorem dL_law_598 : decode cL_law 598 = .ok (.if_icmp .ne 38, 3) := by decide +kernel
theorem dL_law_601 : decode cL_law 601 = .ok (.iload 4, 2) := by decide +kernel
theorem dL_law_603 : decode cL_law 603 = .ok (.iconst 2, 1) := by decide +kernel
theorem dL_law_604 : decode cL_law 604 = .ok (.ishr, 1) := by decide +kernel
theorem dL_law_605 : decode cL_law 605 = .ok (.iconst 3, 1) := by decide +kernel
theorem dL_law_606 : decode cL_law 606 = .ok (.invokestatic 133, 3) := by decide +kernel
theorem dL_law_609 : decode cL_law 609 = .ok (.ifCond .ne 29, 3) := by decide +kernel
theorem dL_law_612 : decode cL_law 612 = .ok (.iload 11, 2) := by decide +kernel
theorem dL_law_614 : decode cL_law 614 = .ok (.ifCond .lt 24, 3) := by decide +kernel
theorem dL_law_617 : decode cL_law 617 = .ok (.aload_n 1, 1) := by decide +kernel
theorem dL_law_618 : decode cL_law 618 = .ok (.invokestatic 138, 3) := by decide +kernel
theorem dL_law_621 : decode cL_law 621 = .ok (.ifCond .lt 15, 3) := by decide +kernel
theorem dL_law_624 : decode cL_law 624 = .ok (.aload_n 1, 1) := by decide +kernel
theorem dL_law_625 : decode cL_law 625 = .ok (.iload 8, 2) := by decide +kernel
theorem dL_law_627 : decode cL_law 627 = .ok (.iconst 0, 1) := by decide +kernel
theorem dL_law_628 : decode cL_law 628 = .ok (.invokestatic 93, 3) := by decide +kernel
theorem dL_law_631 : decode cL_law 631 = .ok (.iload 10, 2) := by decide +kernel
theorem dL_law_633 : decode cL_law 633 = .ok (.if_icmp .eq 5, 3) := by decide +kernel
theorem dL_law_636 : decode cL_law 636 = .ok (.iconst 0, 1) := by decide +kernel
theorem dL_law_637 : decode cL_law 637 = .ok (.ireturn, 1) := by decide +kernel
theorem dL_law_638 : decode cL_law 638 = .ok (.goto 503, 3) := by decide +kernel
theorem dL_law_641 : decode cL_law 641 = .ok (.iload 7, 2) := by decide +kernel
theorem dL_law_643 : decode cL_law 643 = .ok (.iconst 4, 1) := by decide +kernel
theorem dL_law_644 : decode cL_law 644 = .ok (.if_icmp .ne 72, 3) := by decide +kernel
theorem dL_law_647 : decode cL_law 647 = .ok (.iload 4, 2) := by decide +kernel
theorem dL_law_649 : decode cL_law 649 = .ok (.iconst 4, 1) := by decide +kernel
theorem dL_law_650 : decode cL_law 650 = .ok (.invokestatic 133, 3) := by decide +kernel
theorem dL_law_653 : decode cL_law 653 = .ok (.ifCond .ne 63, 3) := by decide +kernel
theorem dL_law_656 : decode cL_law 656 = .ok (.aload_n 1, 1) := by decide +kernel
theorem dL_law_657 : decode cL_law 657 = .ok (.iload 8, 2) := by decide +kernel
theorem dL_law_659 : decode cL_law 659 = .ok (.invokestatic 145, 3) := by decide +kernel
theorem dL_law_662 : decode cL_law 662 = .ok (.iload 5, 2) := by decide +kernel
theorem dL_law_664 : decode cL_law 664 = .ok (.iconst 1, 1) := by decide +kernel
theorem dL_law_665 : decode cL_law 665 = .ok (.isub, 1) := by decide +kernel
theorem dL_law_666 : decode cL_law 666 = .ok (.if_icmp .ne 31, 3) := by decide +kernel
theorem dL_law_669 : decode cL_law 669 = .ok (.iload 4, 2) := by decide +kernel
theorem dL_law_671 : decode cL_law 671 = .ok (.iconst 2, 1) := by decide +kernel
theorem dL_law_672 : decode cL_law 672 = .ok (.ishr, 1) := by decide +kernel
theorem dL_law_673 : decode cL_law 673 = .ok (.iconst 2, 1) := by decide +kernel
theorem dL_law_674 : decode cL_law 674 = .ok (.invokestatic 133, 3) := by decide +kernel
theorem dL_law_677 : decode cL_law 677 = .ok (.ifCond .ne 22, 3) := by decide +kernel
theorem dL_law_680 : decode cL_law 680 = .ok (.aload_n 1, 1) := by decide +kernel
theorem dL_law_681 : decode cL_law 681 = .ok (.invokestatic 138, 3) := by decide +kernel
theorem dL_law_684 : decode cL_law 684 = .ok (.ifCond .lt 13, 3) := by decide +kernel
theorem dL_law_687 : decode cL_law 687 = .ok (.aload_n 1, 1) := by decide +kernel
theorem dL_law_688 : decode cL_law 688 = .ok (.iconst 0, 1) := by decide +kernel
theorem dL_law_689 : decode cL_law 689 = .ok (.invokestatic 88, 3) := by decide +kernel
theorem dL_law_692 : decode cL_law 692 = .ok (.iload 5, 2) := by decide +kernel
theorem dL_law_694 : decode cL_law 694 = .ok (.if_icmp .eq 5, 3) := by decide +kernel
theorem dL_law_697 : decode cL_law 697 = .ok (.iconst 0, 1) := by decide +kernel
theorem dL_law_698 : decode cL_law 698 = .ok (.ireturn, 1) := by decide +kernel
theorem dL_law_699 : decode cL_law 699 = .ok (.aload_n 1, 1) := by decide +kernel
theorem dL_law_700 : decode cL_law 700 = .ok (.iconst 0, 1) := by decide +kernel
theorem dL_law_701 : decode cL_law 701 = .ok (.invokestatic 88, 3) := by decide +kernel
theorem dL_law_704 : decode cL_law 704 = .ok (.ifCond .ne 437, 3) := by decide +kernel
theorem dL_law_707 : decode cL_law 707 = .ok (.aload_n 1, 1) := by decide +kernel
theorem dL_law_708 : decode cL_law 708 = .ok (.invokestatic 180, 3) := by decide +kernel
theorem dL_law_711 : decode cL_law 711 = .ok (.ifCond .eq 430, 3) := by decide +kernel
theorem dL_law_714 : decode cL_law 714 = .ok (.iconst 0, 1) := by decide +kernel
theorem dL_law_715 : decode cL_law 715 = .ok (.ireturn, 1) := by decide +kernel
theorem dL_law_716 : decode cL_law 716 = .ok (.iload 7, 2) := by decide +kernel
theorem dL_law_718 : decode cL_law 718 = .ok (.iconst 5, 1) := by decide +kernel
theorem dL_law_719 : decode cL_law 719 = .ok (.if_icmp .ne 91, 3) := by decide +kernel
theorem dL_law_722 : decode cL_law 722 = .ok (.iload 6, 2) := by decide +kernel
theorem dL_law_724 : decode cL_law 724 = .ok (.ifCond .le 86, 3) := by decide +kernel
theorem dL_law_727 : decode cL_law 727 = .ok (.iload 4, 2) := by decide +kernel
theorem dL_law_729 : decode cL_law 729 = .ok (.iconst 3, 1) := by decide +kernel
theorem dL_law_730 : decode cL_law 730 = .ok (.invokestatic 133, 3) := by decide +kernel
theorem dL_law_733 : decode cL_law 733 = .ok (.ifCond .ne 77, 3) := by decide +kernel
theorem dL_law_736 : decode cL_law 736 = .ok (.iload 4, 2) := by decide +kernel
theorem dL_law_738 : decode cL_law 738 = .ok (.iconst 2, 1) := by decide +kernel
theorem dL_law_739 : decode cL_law 739 = .ok (.ishr, 1) := by decide +kernel
theorem dL_law_740 : decode cL_law 740 = .ok (.iload 6, 2) := by decide +kernel
theorem dL_law_742 : decode cL_law 742 = .ok (.invokestatic 133, 3) := by decide +kernel
theorem dL_law_745 : decode cL_law 745 = .ok (.istore 9, 2) := by decide +kernel
theorem dL_law_747 : decode cL_law 747 = .ok (.iload 9, 2) := by decide +kernel
theorem dL_law_749 : decode cL_law 749 = .ok (.iconst 1, 1) := by decide +kernel
theorem dL_law_750 : decode cL_law 750 = .ok (.iadd, 1) := by decide +kernel
theorem dL_law_751 : decode cL_law 751 = .ok (.iload 6, 2) := by decide +kernel
theorem dL_law_753 : decode cL_law 753 = .ok (.if_icmp .ge 15, 3) := by decide +kernel
theorem dL_law_756 : decode cL_law 756 = .ok (.aload_n 1, 1) := by decide +kernel
theorem dL_law_757 : decode cL_law 757 = .ok (.iload 9, 2) := by decide +kernel
theorem dL_law_759 : decode cL_law 759 = .ok (.iconst 1, 1) := by decide +kernel
theorem dL_law_760 : decode cL_law 760 = .ok (.iadd, 1) := by decide +kernel
theorem dL_law_761 : decode cL_law 761 = .ok (.iconst 1, 1) := by decide +kernel
theorem dL_law_762 : decode cL_law 762 = .ok (.invokestatic 115, 3) := by decide +kernel
theorem dL_law_765 : decode cL_law 765 = .ok (.goto 4, 3) := by decide +kernel
theorem dL_law_768 : decode cL_law 768 = .ok (.iconst 0, 1) := by decide +kernel
theorem dL_law_769 : decode cL_law 769 = .ok (.istore 10, 2) := by decide +kernel
theorem dL_law_771 : decode cL_law 771 = .ok (.aload_n 1, 1) := by decide +kernel
theorem dL_law_772 : decode cL_law 772 = .ok (.iload 9, 2) := by decide +kernel
theorem dL_law_774 : decode cL_law 774 = .ok (.invokestatic 158, 3) := by decide +kernel
theorem dL_law_777 : decode cL_law 777 = .ok (.iload 6, 2) := by decide +kernel
theorem dL_law_779 : decode cL_law 779 = .ok (.iconst 1, 1) := by decide +kernel
theorem dL_law_780 : decode cL_law 780 = .ok (.isub, 1) := by decide +kernel
theorem dL_law_781 : decode cL_law 781 = .ok (.if_icmp .ne 24, 3) := by decide +kernel
theorem dL_law_784 : decode cL_law 784 = .ok (.iload 9, 2) := by decide +kernel
theorem dL_law_786 : decode cL_law 786 = .ok (.iconst 1, 1) := by decide +kernel
theorem dL_law_787 : decode cL_law 787 = .ok (.iadd, 1) := by decide +kernel
theorem dL_law_788 : decode cL_law 788 = .ok (.iload 6, 2) := by decide +kernel
theorem dL_law_790 : decode cL_law 790 = .ok (.if_icmp .ge 17, 3) := by decide +kernel
theorem dL_law_793 : decode cL_law 793 = .ok (.aload_n 1, 1) := by decide +kernel
theorem dL_law_794 : decode cL_law 794 = .ok (.iload 9, 2) := by decide +kernel
theorem dL_law_796 : decode cL_law 796 = .ok (.iconst 1, 1) := by decide +kernel
theorem dL_law_797 : decode cL_law 797 = .ok (.invokestatic 115, 3) := by decide +kernel
theorem dL_law_800 : decode cL_law 800 = .ok (.iload 10, 2) := by decide +kernel
theorem dL_law_802 : decode cL_law 802 = .ok (.if_icmp .eq 5, 3) := by decide +kernel
theorem dL_law_805 : decode cL_law 805 = .ok (.iconst 0, 1) := by decide +kernel
theorem dL_law_806 : decode cL_law 806 = .ok (.ireturn, 1) := by decide +kernel
theorem dL_law_807 : decode cL_law 807 = .ok (.goto 334, 3) := by decide +kernel
theorem dL_law_810 : decode cL_law 810 = .ok (.iload 7, 2) := by decide +kernel
theorem dL_law_812 : decode cL_law 812 = .ok (.bipush 8, 2) := by decide +kernel
theorem dL_law_814 : decode cL_law 814 = .ok (.if_icmp .ge 206, 3) := by decide +kernel
theorem dL_law_817 : decode cL_law 817 = .ok (.iload_n 3, 1) := by decide +kernel
theorem dL_law_818 : decode cL_law 818 = .ok (.bipush 9, 2) := by decide +kernel
theorem dL_law_820 : decode cL_law 820 = .ok (.ishr, 1) := by decide +kernel
theorem dL_law_821 : decode cL_law 821 = .ok (.bipush 10, 2) := by decide +kernel
theorem dL_law_823 : decode cL_law 823 = .ok (.invokestatic 133, 3) := by decide +kernel
theorem dL_law_826 : decode cL_law 826 = .ok (.istore 9, 2) := by decide +kernel
theorem dL_law_828 : decode cL_law 828 = .ok (.iload 9, 2) := by decide +kernel
theorem dL_law_830 : decode cL_law 830 = .ok (.ifCond .ne 18, 3) := by decide +kernel
theorem dL_law_833 : decode cL_law 833 = .ok (.iload 4, 2) := by decide +kernel
theorem dL_law_835 : decode cL_law 835 = .ok (.sipush 2001, 3) := by decide +kernel
theorem dL_law_838 : decode cL_law 838 = .ok (.invokestatic 133, 3) := by decide +kernel
theorem dL_law_841 : decode cL_law 841 = .ok (.sipush 600, 3) := by decide +kernel
theorem dL_law_844 : decode cL_law 844 = .ok (.isub, 1) := by decide +kernel
theorem dL_law_845 : decode cL_law 845 = .ok (.goto 136, 3) := by decide +kernel
theorem dL_law_848 : decode cL_law 848 = .ok (.iload 9, 2) := by decide +kernel
theorem dL_law_850 : decode cL_law 850 = .ok (.iconst 3, 1) := by decide +kernel
theorem dL_law_851 : decode cL_law 851 = .ok (.if_icmp .ge 17, 3) := by decide +kernel
theorem dL_law_854 : decode cL_law 854 = .ok (.iload 4, 2) := by decide +kernel
theorem dL_law_856 : decode cL_law 856 = .ok (.sipush 201, 3) := by decide +kernel
theorem dL_law_859 : decode cL_law 859 = .ok (.invokestatic 133, 3) := by decide +kernel
theorem dL_law_862 : decode cL_law 862 = .ok (.bipush 100, 2) := by decide +kernel
theorem dL_law_864 : decode cL_law 864 = .ok (.isub, 1) := by decide +kernel
theorem dL_law_865 : decode cL_law 865 = .ok (.goto 116, 3) := by decide +kernel
theorem dL_law_868 : decode cL_law 868 = .ok (.iload 9, 2) := by decide +kernel
theorem dL_law_870 : decode cL_law 870 = .ok (.iconst 3, 1) := by decide +kernel
theorem dL_law_871 : decode cL_law 871 = .ok (.if_icmp .ne 14, 3) := by decide +kernel
theorem dL_law_874 : decode cL_law 874 = .ok (.iload 4, 2) := by decide +kernel
theorem dL_law_876 : decode cL_law 876 = .ok (.sipush 400, 3) := by decide +kernel
theorem dL_law_879 : decode cL_law 879 = .ok (.invokestatic 133, 3) := by decide +kernel
theorem dL_law_882 : decode cL_law 882 = .ok (.goto 99, 3) := by decide +kernel
theorem dL_law_885 : decode cL_law 885 = .ok (.iload 9, 2) := by decide +kernel
theorem dL_law_887 : decode cL_law 887 = .ok (.iconst 4, 1) := by decide +kernel
theorem dL_law_888 : decode cL_law 888 = .ok (.if_icmp .ne 13, 3) := by decide +kernel
theorem dL_law_891 : decode cL_law 891 = .ok (.iload 4, 2) := by decide +kernel
theorem dL_law_893 : decode cL_law 893 = .ok (.ldc 152, 2) := by decide +kernel
theorem dL_law_895 : decode cL_law 895 = .ok (.invokestatic 133, 3) := by decide +kernel
theorem dL_law_898 : decode cL_law 898 = .ok (.goto 83, 3) := by decide +kernel
theorem dL_law_901 : decode cL_law 901 = .ok (.iload 9, 2) := by decide +kernel
theorem dL_law_903 : decode cL_law 903 = .ok (.iconst 5, 1) := by decide +kernel
theorem dL_law_904 : decode cL_law 904 = .ok (.if_icmp .ne 14, 3) := by decide +kernel
theorem dL_law_907 : decode cL_law 907 = .ok (.iload 4, 2) := by decide +kernel
theorem dL_law_909 : decode cL_law 909 = .ok (.sipush 5001, 3) := by decide +kernel
theorem dL_law_912 : decode cL_law 912 = .ok (.invokestatic 133, 3) := by decide +kernel
theorem dL_law_915 : decode cL_law 915 = .ok (.goto 66, 3) := by decide +kernel
theorem dL_law_918 : decode cL_law 918 = .ok (.iload 9, 2) := by decide +kernel
theorem dL_law_920 : decode cL_law 920 = .ok (.bipush 6, 2) := by decide +kernel
theorem dL_law_922 : decode cL_law 922 = .ok (.if_icmp .ne 15, 3) := by decide +kernel
theorem dL_law_925 : decode cL_law 925 = .ok (.iconst 1, 1) := by decide +kernel
theorem dL_law_926 : decode cL_law 926 = .ok (.iload 4, 2) := by decide +kernel
theorem dL_law_928 : decode cL_law 928 = .ok (.bipush 50, 2) := by decide +kernel
theorem dL_law_930 : decode cL_law 930 = .ok (.invokestatic 133, 3) := by decide +kernel
theorem dL_law_933 : decode cL_law 933 = .ok (.iadd, 1) := by decide +kernel
theorem dL_law_934 : decode cL_law 934 = .ok (.goto 47, 3) := by decide +kernel
theorem dL_law_937 : decode cL_law 937 = .ok (.iload 9, 2) := by decide +kernel
theorem dL_law_939 : decode cL_law 939 = .ok (.bipush 7, 2) := by decide +kernel
theorem dL_law_941 : decode cL_law 941 = .ok (.if_icmp .ne 16, 3) := by decide +kernel
theorem dL_law_944 : decode cL_law 944 = .ok (.iconst 1, 1) := by decide +kernel
theorem dL_law_945 : decode cL_law 945 = .ok (.iload 4, 2) := by decide +kernel
theorem dL_law_947 : decode cL_law 947 = .ok (.sipush 3000, 3) := by decide +kernel
theorem dL_law_950 : decode cL_law 950 = .ok (.invokestatic 133, 3) := by decide +kernel
theorem dL_law_953 : decode cL_law 953 = .ok (.iadd, 1) := by decide +kernel
theorem dL_law_954 : decode cL_law 954 = .ok (.goto 27, 3) := by decide +kernel
theorem dL_law_957 : decode cL_law 957 = .ok (.iload 9, 2) := by decide +kernel
theorem dL_law_959 : decode cL_law 959 = .ok (.bipush 8, 2) := by decide +kernel
theorem dL_law_961 : decode cL_law 961 = .ok (.if_icmp .ne 13, 3) := by decide +kernel
theorem dL_law_964 : decode cL_law 964 = .ok (.iload 4, 2) := by decide +kernel
theorem dL_law_966 : decode cL_law 966 = .ok (.ldc 101, 2) := by decide +kernel
theorem dL_law_968 : decode cL_law 968 = .ok (.invokestatic 133, 3) := by decide +kernel
theorem dL_law_971 : decode cL_law 971 = .ok (.goto 10, 3) := by decide +kernel
theorem dL_law_974 : decode cL_law 974 = .ok (.iload 4, 2) := by decide +kernel
theorem dL_law_976 : decode cL_law 976 = .ok (.bipush 10, 2) := by decide +kernel
theorem dL_law_978 : decode cL_law 978 = .ok (.invokestatic 133, 3) := by decide +kernel
theorem dL_law_981 : decode cL_law 981 = .ok (.istore 10, 2) := by decide +kernel
theorem dL_law_983 : decode cL_law 983 = .ok (.aload_n 1, 1) := by decide +kernel
theorem dL_law_984 : decode cL_law 984 = .ok (.iload 9, 2) := by decide +kernel
theorem dL_law_986 : decode cL_law 986 = .ok (.invokestatic 103, 3) := by decide +kernel
theorem dL_law_989 : decode cL_law 989 = .ok (.istore 11, 2) := by decide +kernel
theorem dL_law_991 : decode cL_law 991 = .ok (.aload_n 1, 1) := by decide +kernel
theorem dL_law_992 : decode cL_law 992 = .ok (.iload 9, 2) := by decide +kernel
theorem dL_law_994 : decode cL_law 994 = .ok (.iload 10, 2) := by decide +kernel
theorem dL_law_996 : decode cL_law 996 = .ok (.invokestatic 136, 3) := by decide +kernel
theorem dL_law_999 : decode cL_law 999 = .ok (.iload 11, 2) := by decide +kernel
theorem dL_law_1001 : decode cL_law 1001 = .ok (.if_icmp .ne 14, 3) := by decide +kernel
theorem dL_law_1004 : decode cL_law 1004 = .ok (.aload_n 1, 1) := by decide +kernel
theorem dL_law_1005 : decode cL_law 1005 = .ok (.iload 9, 2) := by decide +kernel
theorem dL_law_1007 : decode cL_law 1007 = .ok (.invokestatic 103, 3) := by decide +kernel
theorem dL_law_1010 : decode cL_law 1010 = .ok (.iload 10, 2) := by decide +kernel
theorem dL_law_1012 : decode cL_law 1012 = .ok (.if_icmp .eq 5, 3) := by decide +kernel
theorem dL_law_1015 : decode cL_law 1015 = .ok (.iconst 0, 1) := by decide +kernel
theorem dL_law_1016 : decode cL_law 1016 = .ok (.ireturn, 1) := by decide +kernel
theorem dL_law_1017 : decode cL_law 1017 = .ok (.goto 124, 3) := by decide +kernel
theorem dL_law_1020 : decode cL_law 1020 = .ok (.iload 7, 2) := by decide +kernel
theorem dL_law_1022 : decode cL_law 1022 = .ok (.bipush 8, 2) := by decide +kernel
theorem dL_law_1024 : decode cL_law 1024 = .ok (.if_icmp .ne 92, 3) := by decide +kernel
theorem dL_law_1027 : decode cL_law 1027 = .ok (.sipush 1800, 3) := by decide +kernel
theorem dL_law_1030 : decode cL_law 1030 = .ok (.iload 4, 2) := by decide +kernel
theorem dL_law_1032 : decode cL_law 1032 = .ok (.sipush 400, 3) := by decide +kernel
theorem dL_law_1035 : decode cL_law 1035 = .ok (.invokestatic 133, 3) := by decide +kernel
theorem dL_law_1038 : decode cL_law 1038 = .ok (.iadd, 1) := by decide +kernel
theorem dL_law_1039 : decode cL_law 1039 = .ok (.istore 9, 2) := by decide +kernel
theorem dL_law_1041 : decode cL_law 1041 = .ok (.sipush 1800, 3) := by decide +kernel
theorem dL_law_1044 : decode cL_law 1044 = .ok (.iload 4, 2) := by decide +kernel
theorem dL_law_1046 : decode cL_law 1046 = .ok (.bipush 9, 2) := by decide +kernel
theorem dL_law_1048 : decode cL_law 1048 = .ok (.ishr, 1) := by decide +kernel
theorem dL_law_1049 : decode cL_law 1049 = .ok (.sipush 400, 3) := by decide +kernel
theorem dL_law_1052 : decode cL_law 1052 = .ok (.invokestatic 133, 3) := by decide +kernel
theorem dL_law_1055 : decode cL_law 1055 = .ok (.iadd, 1) := by decide +kernel
theorem dL_law_1056 : decode cL_law 1056 = .ok (.istore 10, 2) := by decide +kernel
theorem dL_law_1058 : decode cL_law 1058 = .ok (.aload_n 1, 1) := by decide +kernel
theorem dL_law_1059 : decode cL_law 1059 = .ok (.iload 9, 2) := by decide +kernel
theorem dL_law_1061 : decode cL_law 1061 = .ok (.iload 10, 2) := by decide +kernel
theorem dL_law_1063 : decode cL_law 1063 = .ok (.invokestatic 113, 3) := by decide +kernel
theorem dL_law_1066 : decode cL_law 1066 = .ok (.istore 11, 2) := by decide +kernel
theorem dL_law_1068 : decode cL_law 1068 = .ok (.aload_n 1, 1) := by decide +kernel
theorem dL_law_1069 : decode cL_law 1069 = .ok (.iload 9, 2) := by decide +kernel
theorem dL_law_1071 : decode cL_law 1071 = .ok (.iload 10, 2) := by decide +kernel
theorem dL_law_1073 : decode cL_law 1073 = .ok (.invokestatic 153, 3) := by decide +kernel
theorem dL_law_1076 : decode cL_law 1076 = .ok (.iload 11, 2) := by decide +kernel
theorem dL_law_1078 : decode cL_law 1078 = .ok (.if_icmp .ne 33, 3) := by decide +kernel
theorem dL_law_1081 : decode cL_law 1081 = .ok (.aload_n 1, 1) := by decide +kernel
theorem dL_law_1082 : decode cL_law 1082 = .ok (.iconst 4, 1) := by decide +kernel
theorem dL_law_1083 : decode cL_law 1083 = .ok (.invokestatic 88, 3) := by decide +kernel
theorem dL_law_1086 : decode cL_law 1086 = .ok (.iload 11, 2) := by decide +kernel
theorem dL_law_1088 : decode cL_law 1088 = .ok (.if_icmp .ne 23, 3) := by decide +kernel
theorem dL_law_1091 : decode cL_law 1091 = .ok (.aload_n 1, 1) := by decide +kernel
theorem dL_law_1092 : decode cL_law 1092 = .ok (.iconst 2, 1) := by decide +kernel
theorem dL_law_1093 : decode cL_law 1093 = .ok (.invokestatic 88, 3) := by decide +kernel
theorem dL_law_1096 : decode cL_law 1096 = .ok (.iload 9, 2) := by decide +kernel
theorem dL_law_1098 : decode cL_law 1098 = .ok (.if_icmp .ne 13, 3) := by decide +kernel
theorem dL_law_1101 : decode cL_law 1101 = .ok (.aload_n 1, 1) := by decide +kernel
theorem dL_law_1102 : decode cL_law 1102 = .ok (.iconst 3, 1) := by decide +kernel
theorem dL_law_1103 : decode cL_law 1103 = .ok (.invokestatic 88, 3) := by decide +kernel
theorem dL_law_1106 : decode cL_law 1106 = .ok (.iload 10, 2) := by decide +kernel
theorem dL_law_1108 : decode cL_law 1108 = .ok (.if_icmp .eq 5, 3) := by decide +kernel
theorem dL_law_1111 : decode cL_law 1111 = .ok (.iconst 0, 1) := by decide +kernel
theorem dL_law_1112 : decode cL_law 1112 = .ok (.ireturn, 1) := by decide +kernel
theorem dL_law_1113 : decode cL_law 1113 = .ok (.goto 28, 3) := by decide +kernel
theorem dL_law_1116 : decode cL_law 1116 = .ok (.iload 7, 2) := by decide +kernel
theorem dL_law_1118 : decode cL_law 1118 = .ok (.bipush 9, 2) := by decide +kernel
theorem dL_law_1120 : decode cL_law 1120 = .ok (.if_icmp .ne 21, 3) := by decide +kernel
theorem dL_law_1123 : decode cL_law 1123 = .ok (.aload_n 1, 1) := by decide +kernel
theorem dL_law_1124 : decode cL_law 1124 = .ok (.iconst 1, 1) := by decide +kernel
theorem dL_law_1125 : decode cL_law 1125 = .ok (.iload 4, 2) := by decide +kernel
theorem dL_law_1127 : decode cL_law 1127 = .ok (.bipush 40, 2) := by decide +kernel
theorem dL_law_1129 : decode cL_law 1129 = .ok (.invokestatic 133, 3) := by decide +kernel
theorem dL_law_1132 : decode cL_law 1132 = .ok (.iadd, 1) := by decide +kernel
theorem dL_law_1133 : decode cL_law 1133 = .ok (.invokestatic 182, 3) := by decide +kernel
theorem dL_law_1136 : decode cL_law 1136 = .ok (.ifCond .ne 5, 3) := by decide +kernel
theorem dL_law_1139 : decode cL_law 1139 = .ok (.iconst 0, 1) := by decide +kernel
theorem dL_law_1140 : decode cL_law 1140 = .ok (.ireturn, 1) := by decide +kernel
theorem dL_law_1141 : decode cL_law 1141 = .ok (.aload_n 1, 1) := by decide +kernel
theorem dL_law_1142 : decode cL_law 1142 = .ok (.invokestatic 167, 3) := by decide +kernel
theorem dL_law_1145 : decode cL_law 1145 = .ok (.ifCond .eq 37, 3) := by decide +kernel
theorem dL_law_1148 : decode cL_law 1148 = .ok (.iload_n 2, 1) := by decide +kernel
theorem dL_law_1149 : decode cL_law 1149 = .ok (.iconst 3, 1) := by decide +kernel
theorem dL_law_1150 : decode cL_law 1150 = .ok (.irem, 1) := by decide +kernel
theorem dL_law_1151 : decode cL_law 1151 = .ok (.iconst 2, 1) := by decide +kernel
theorem dL_law_1152 : decode cL_law 1152 = .ok (.if_icmp .ne 10, 3) := by decide +kernel
theorem dL_law_1155 : decode cL_law 1155 = .ok (.aload_n 1, 1) := by decide +kernel
theorem dL_law_1156 : decode cL_law 1156 = .ok (.invokestatic 170, 3) := by decide +kernel
theorem dL_law_1159 : decode cL_law 1159 = .ok (.ifCond .eq 23, 3) := by decide +kernel
theorem dL_law_1162 : decode cL_law 1162 = .ok (.iload_n 2, 1) := by decide +kernel
theorem dL_law_1163 : decode cL_law 1163 = .ok (.bipush 14, 2) := by decide +kernel
theorem dL_law_1165 : decode cL_law 1165 = .ok (.irem, 1) := by decide +kernel
theorem dL_law_1166 : decode cL_law 1166 = .ok (.bipush 13, 2) := by decide +kernel
theorem dL_law_1168 : decode cL_law 1168 = .ok (.if_icmp .ne 16, 3) := by decide +kernel
theorem dL_law_1171 : decode cL_law 1171 = .ok (.aload_n 1, 1) := by decide +kernel
theorem dL_law_1172 : decode cL_law 1172 = .ok (.iload 4, 2) := by decide +kernel
theorem dL_law_1174 : decode cL_law 1174 = .ok (.iconst 5, 1) := by decide +kernel
theorem dL_law_1175 : decode cL_law 1175 = .ok (.ishr, 1) := by decide +kernel
theorem dL_law_1176 : decode cL_law 1176 = .ok (.invokestatic 186, 3) := by decide +kernel
theorem dL_law_1179 : decode cL_law 1179 = .ok (.ifCond .ne 5, 3) := by decide +kernel
theorem dL_law_1182 : decode cL_law 1182 = .ok (.iconst 0, 1) := by decide +kernel
theorem dL_law_1183 : decode cL_law 1183 = .ok (.ireturn, 1) := by decide +kernel
theorem dL_law_1184 : decode cL_law 1184 = .ok (.iinc 2 1, 3) := by decide +kernel
theorem dL_law_1187 : decode cL_law 1187 = .ok (.goto (-1131), 3) := by decide +kernel
theorem dL_law_1190 : decode cL_law 1190 = .ok (.aload_n 1, 1) := by decide +kernel
theorem dL_law_1191 : decode cL_law 1191 = .ok (.invokestatic 163, 3) := by decide +kernel
theorem dL_law_1194 : decode cL_law 1194 = .ok (.ireturn, 1) := by decide +kernel
