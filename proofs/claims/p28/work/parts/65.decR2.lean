theorem dL_refuses_628 : decode cL_refuses 628 = .ok (.ldc 83, 2) := by decide +kernel
theorem dL_refuses_630 : decode cL_refuses 630 = .ok (.if_icmp .ne 354, 3) := by decide +kernel
theorem dL_refuses_633 : decode cL_refuses 633 = .ok (.aload_n 0, 1) := by decide +kernel
theorem dL_refuses_634 : decode cL_refuses 634 = .ok (.bipush 11, 2) := by decide +kernel
theorem dL_refuses_636 : decode cL_refuses 636 = .ok (.iconst 0, 1) := by decide +kernel
theorem dL_refuses_637 : decode cL_refuses 637 = .ok (.iload 9, 2) := by decide +kernel
theorem dL_refuses_639 : decode cL_refuses 639 = .ok (.iconst 0, 1) := by decide +kernel
theorem dL_refuses_640 : decode cL_refuses 640 = .ok (.iconst 0, 1) := by decide +kernel
theorem dL_refuses_641 : decode cL_refuses 641 = .ok (.iconst 0, 1) := by decide +kernel
theorem dL_refuses_642 : decode cL_refuses 642 = .ok (.invokestatic 99, 3) := by decide +kernel
theorem dL_refuses_645 : decode cL_refuses 645 = .ok (.ldc 83, 2) := by decide +kernel
theorem dL_refuses_647 : decode cL_refuses 647 = .ok (.if_icmp .ne 337, 3) := by decide +kernel
theorem dL_refuses_650 : decode cL_refuses 650 = .ok (.aload_n 0, 1) := by decide +kernel
theorem dL_refuses_651 : decode cL_refuses 651 = .ok (.bipush 11, 2) := by decide +kernel
theorem dL_refuses_653 : decode cL_refuses 653 = .ok (.iconst 0, 1) := by decide +kernel
theorem dL_refuses_654 : decode cL_refuses 654 = .ok (.iconst 1, 1) := by decide +kernel
theorem dL_refuses_655 : decode cL_refuses 655 = .ok (.iload 12, 2) := by decide +kernel
theorem dL_refuses_657 : decode cL_refuses 657 = .ok (.iconst 0, 1) := by decide +kernel
theorem dL_refuses_658 : decode cL_refuses 658 = .ok (.iconst 0, 1) := by decide +kernel
theorem dL_refuses_659 : decode cL_refuses 659 = .ok (.invokestatic 99, 3) := by decide +kernel
theorem dL_refuses_662 : decode cL_refuses 662 = .ok (.ldc 86, 2) := by decide +kernel
theorem dL_refuses_664 : decode cL_refuses 664 = .ok (.if_icmp .ne 320, 3) := by decide +kernel
theorem dL_refuses_667 : decode cL_refuses 667 = .ok (.aload_n 0, 1) := by decide +kernel
theorem dL_refuses_668 : decode cL_refuses 668 = .ok (.bipush 11, 2) := by decide +kernel
theorem dL_refuses_670 : decode cL_refuses 670 = .ok (.iconst 2, 1) := by decide +kernel
theorem dL_refuses_671 : decode cL_refuses 671 = .ok (.iconst 2, 1) := by decide +kernel
theorem dL_refuses_672 : decode cL_refuses 672 = .ok (.iconst 5, 1) := by decide +kernel
theorem dL_refuses_673 : decode cL_refuses 673 = .ok (.iconst 0, 1) := by decide +kernel
theorem dL_refuses_674 : decode cL_refuses 674 = .ok (.iconst 0, 1) := by decide +kernel
theorem dL_refuses_675 : decode cL_refuses 675 = .ok (.invokestatic 99, 3) := by decide +kernel
theorem dL_refuses_678 : decode cL_refuses 678 = .ok (.ldc 86, 2) := by decide +kernel
theorem dL_refuses_680 : decode cL_refuses 680 = .ok (.if_icmp .ne 304, 3) := by decide +kernel
theorem dL_refuses_683 : decode cL_refuses 683 = .ok (.aload_n 0, 1) := by decide +kernel
theorem dL_refuses_684 : decode cL_refuses 684 = .ok (.bipush 12, 2) := by decide +kernel
theorem dL_refuses_686 : decode cL_refuses 686 = .ok (.iload 7, 2) := by decide +kernel
theorem dL_refuses_688 : decode cL_refuses 688 = .ok (.ifCond .ne 7, 3) := by decide +kernel
theorem dL_refuses_691 : decode cL_refuses 691 = .ok (.iconst 0, 1) := by decide +kernel
theorem dL_refuses_692 : decode cL_refuses 692 = .ok (.goto 16, 3) := by decide +kernel
theorem dL_refuses_695 : decode cL_refuses 695 = .ok (.iload 7, 2) := by decide +kernel
theorem dL_refuses_697 : decode cL_refuses 697 = .ok (.iconst 1, 1) := by decide +kernel
theorem dL_refuses_698 : decode cL_refuses 698 = .ok (.if_icmp .ne 8, 3) := by decide +kernel
theorem dL_refuses_701 : decode cL_refuses 701 = .ok (.bipush 61, 2) := by decide +kernel
theorem dL_refuses_703 : decode cL_refuses 703 = .ok (.goto 5, 3) := by decide +kernel
theorem dL_refuses_706 : decode cL_refuses 706 = .ok (.iload 8, 2) := by decide +kernel
theorem dL_refuses_708 : decode cL_refuses 708 = .ok (.iconst 0, 1) := by decide +kernel
theorem dL_refuses_709 : decode cL_refuses 709 = .ok (.iconst 0, 1) := by decide +kernel
theorem dL_refuses_710 : decode cL_refuses 710 = .ok (.iconst 0, 1) := by decide +kernel
theorem dL_refuses_711 : decode cL_refuses 711 = .ok (.iconst 0, 1) := by decide +kernel
theorem dL_refuses_712 : decode cL_refuses 712 = .ok (.invokestatic 99, 3) := by decide +kernel
theorem dL_refuses_715 : decode cL_refuses 715 = .ok (.ldc 86, 2) := by decide +kernel
theorem dL_refuses_717 : decode cL_refuses 717 = .ok (.if_icmp .ne 267, 3) := by decide +kernel
theorem dL_refuses_720 : decode cL_refuses 720 = .ok (.aload_n 0, 1) := by decide +kernel
theorem dL_refuses_721 : decode cL_refuses 721 = .ok (.bipush 13, 2) := by decide +kernel
theorem dL_refuses_723 : decode cL_refuses 723 = .ok (.iload 10, 2) := by decide +kernel
theorem dL_refuses_725 : decode cL_refuses 725 = .ok (.bipush 99, 2) := by decide +kernel
theorem dL_refuses_727 : decode cL_refuses 727 = .ok (.iconst 0, 1) := by decide +kernel
theorem dL_refuses_728 : decode cL_refuses 728 = .ok (.iconst 0, 1) := by decide +kernel
theorem dL_refuses_729 : decode cL_refuses 729 = .ok (.iconst 0, 1) := by decide +kernel
theorem dL_refuses_730 : decode cL_refuses 730 = .ok (.invokestatic 99, 3) := by decide +kernel
theorem dL_refuses_733 : decode cL_refuses 733 = .ok (.ldc 83, 2) := by decide +kernel
theorem dL_refuses_735 : decode cL_refuses 735 = .ok (.if_icmp .ne 249, 3) := by decide +kernel
theorem dL_refuses_738 : decode cL_refuses 738 = .ok (.aload_n 0, 1) := by decide +kernel
theorem dL_refuses_739 : decode cL_refuses 739 = .ok (.bipush 14, 2) := by decide +kernel
theorem dL_refuses_741 : decode cL_refuses 741 = .ok (.iload 10, 2) := by decide +kernel
theorem dL_refuses_743 : decode cL_refuses 743 = .ok (.iconst 0, 1) := by decide +kernel
theorem dL_refuses_744 : decode cL_refuses 744 = .ok (.bipush 99, 2) := by decide +kernel
theorem dL_refuses_746 : decode cL_refuses 746 = .ok (.iconst 0, 1) := by decide +kernel
theorem dL_refuses_747 : decode cL_refuses 747 = .ok (.iconst 0, 1) := by decide +kernel
theorem dL_refuses_748 : decode cL_refuses 748 = .ok (.invokestatic 99, 3) := by decide +kernel
theorem dL_refuses_751 : decode cL_refuses 751 = .ok (.ldc 83, 2) := by decide +kernel
theorem dL_refuses_753 : decode cL_refuses 753 = .ok (.if_icmp .ne 231, 3) := by decide +kernel
theorem dL_refuses_756 : decode cL_refuses 756 = .ok (.aload_n 0, 1) := by decide +kernel
theorem dL_refuses_757 : decode cL_refuses 757 = .ok (.bipush 14, 2) := by decide +kernel
theorem dL_refuses_759 : decode cL_refuses 759 = .ok (.iconst 0, 1) := by decide +kernel
theorem dL_refuses_760 : decode cL_refuses 760 = .ok (.iload 7, 2) := by decide +kernel
theorem dL_refuses_762 : decode cL_refuses 762 = .ok (.iconst 1, 1) := by decide +kernel
theorem dL_refuses_763 : decode cL_refuses 763 = .ok (.if_icmp .ne 7, 3) := by decide +kernel
theorem dL_refuses_766 : decode cL_refuses 766 = .ok (.iconst 3, 1) := by decide +kernel
theorem dL_refuses_767 : decode cL_refuses 767 = .ok (.goto 5, 3) := by decide +kernel
theorem dL_refuses_770 : decode cL_refuses 770 = .ok (.iload 8, 2) := by decide +kernel
theorem dL_refuses_772 : decode cL_refuses 772 = .ok (.bipush 99, 2) := by decide +kernel
theorem dL_refuses_774 : decode cL_refuses 774 = .ok (.iconst 0, 1) := by decide +kernel
theorem dL_refuses_775 : decode cL_refuses 775 = .ok (.iconst 0, 1) := by decide +kernel
theorem dL_refuses_776 : decode cL_refuses 776 = .ok (.invokestatic 99, 3) := by decide +kernel
theorem dL_refuses_779 : decode cL_refuses 779 = .ok (.ldc 83, 2) := by decide +kernel
theorem dL_refuses_781 : decode cL_refuses 781 = .ok (.if_icmp .ne 203, 3) := by decide +kernel
theorem dL_refuses_784 : decode cL_refuses 784 = .ok (.aload_n 0, 1) := by decide +kernel
theorem dL_refuses_785 : decode cL_refuses 785 = .ok (.bipush 15, 2) := by decide +kernel
theorem dL_refuses_787 : decode cL_refuses 787 = .ok (.iload 9, 2) := by decide +kernel
theorem dL_refuses_789 : decode cL_refuses 789 = .ok (.iconst 0, 1) := by decide +kernel
theorem dL_refuses_790 : decode cL_refuses 790 = .ok (.iconst 0, 1) := by decide +kernel
theorem dL_refuses_791 : decode cL_refuses 791 = .ok (.iconst 0, 1) := by decide +kernel
theorem dL_refuses_792 : decode cL_refuses 792 = .ok (.iconst 0, 1) := by decide +kernel
theorem dL_refuses_793 : decode cL_refuses 793 = .ok (.invokestatic 99, 3) := by decide +kernel
theorem dL_refuses_796 : decode cL_refuses 796 = .ok (.ldc 83, 2) := by decide +kernel
theorem dL_refuses_798 : decode cL_refuses 798 = .ok (.if_icmp .ne 186, 3) := by decide +kernel
theorem dL_refuses_801 : decode cL_refuses 801 = .ok (.aload_n 0, 1) := by decide +kernel
theorem dL_refuses_802 : decode cL_refuses 802 = .ok (.bipush 16, 2) := by decide +kernel
theorem dL_refuses_804 : decode cL_refuses 804 = .ok (.iload 9, 2) := by decide +kernel
theorem dL_refuses_806 : decode cL_refuses 806 = .ok (.iconst 0, 1) := by decide +kernel
theorem dL_refuses_807 : decode cL_refuses 807 = .ok (.iconst 0, 1) := by decide +kernel
theorem dL_refuses_808 : decode cL_refuses 808 = .ok (.iconst 0, 1) := by decide +kernel
theorem dL_refuses_809 : decode cL_refuses 809 = .ok (.iconst 0, 1) := by decide +kernel
theorem dL_refuses_810 : decode cL_refuses 810 = .ok (.invokestatic 99, 3) := by decide +kernel
theorem dL_refuses_813 : decode cL_refuses 813 = .ok (.ldc 83, 2) := by decide +kernel
theorem dL_refuses_815 : decode cL_refuses 815 = .ok (.if_icmp .ne 169, 3) := by decide +kernel
theorem dL_refuses_818 : decode cL_refuses 818 = .ok (.aload_n 0, 1) := by decide +kernel
theorem dL_refuses_819 : decode cL_refuses 819 = .ok (.bipush 17, 2) := by decide +kernel
theorem dL_refuses_821 : decode cL_refuses 821 = .ok (.iload 9, 2) := by decide +kernel
theorem dL_refuses_823 : decode cL_refuses 823 = .ok (.iconst 0, 1) := by decide +kernel
theorem dL_refuses_824 : decode cL_refuses 824 = .ok (.iconst 0, 1) := by decide +kernel
theorem dL_refuses_825 : decode cL_refuses 825 = .ok (.iconst 0, 1) := by decide +kernel
theorem dL_refuses_826 : decode cL_refuses 826 = .ok (.iconst 0, 1) := by decide +kernel
theorem dL_refuses_827 : decode cL_refuses 827 = .ok (.invokestatic 99, 3) := by decide +kernel
theorem dL_refuses_830 : decode cL_refuses 830 = .ok (.ldc 83, 2) := by decide +kernel
theorem dL_refuses_832 : decode cL_refuses 832 = .ok (.if_icmp .ne 152, 3) := by decide +kernel
theorem dL_refuses_835 : decode cL_refuses 835 = .ok (.aload_n 0, 1) := by decide +kernel
theorem dL_refuses_836 : decode cL_refuses 836 = .ok (.bipush 18, 2) := by decide +kernel
theorem dL_refuses_838 : decode cL_refuses 838 = .ok (.iload 9, 2) := by decide +kernel
theorem dL_refuses_840 : decode cL_refuses 840 = .ok (.iconst 0, 1) := by decide +kernel
theorem dL_refuses_841 : decode cL_refuses 841 = .ok (.iconst 0, 1) := by decide +kernel
theorem dL_refuses_842 : decode cL_refuses 842 = .ok (.iconst 0, 1) := by decide +kernel
theorem dL_refuses_843 : decode cL_refuses 843 = .ok (.iconst 0, 1) := by decide +kernel
theorem dL_refuses_844 : decode cL_refuses 844 = .ok (.invokestatic 99, 3) := by decide +kernel
theorem dL_refuses_847 : decode cL_refuses 847 = .ok (.ldc 83, 2) := by decide +kernel
theorem dL_refuses_849 : decode cL_refuses 849 = .ok (.if_icmp .ne 135, 3) := by decide +kernel
theorem dL_refuses_852 : decode cL_refuses 852 = .ok (.aload_n 0, 1) := by decide +kernel
theorem dL_refuses_853 : decode cL_refuses 853 = .ok (.bipush 19, 2) := by decide +kernel
theorem dL_refuses_855 : decode cL_refuses 855 = .ok (.iload 9, 2) := by decide +kernel
theorem dL_refuses_857 : decode cL_refuses 857 = .ok (.iconst 0, 1) := by decide +kernel
theorem dL_refuses_858 : decode cL_refuses 858 = .ok (.iconst 0, 1) := by decide +kernel
theorem dL_refuses_859 : decode cL_refuses 859 = .ok (.iconst 0, 1) := by decide +kernel
theorem dL_refuses_860 : decode cL_refuses 860 = .ok (.iconst 0, 1) := by decide +kernel
theorem dL_refuses_861 : decode cL_refuses 861 = .ok (.invokestatic 99, 3) := by decide +kernel
theorem dL_refuses_864 : decode cL_refuses 864 = .ok (.ldc 83, 2) := by decide +kernel
theorem dL_refuses_866 : decode cL_refuses 866 = .ok (.if_icmp .ne 118, 3) := by decide +kernel
theorem dL_refuses_869 : decode cL_refuses 869 = .ok (.aload_n 0, 1) := by decide +kernel
theorem dL_refuses_870 : decode cL_refuses 870 = .ok (.bipush 19, 2) := by decide +kernel
theorem dL_refuses_872 : decode cL_refuses 872 = .ok (.iconst 0, 1) := by decide +kernel
theorem dL_refuses_873 : decode cL_refuses 873 = .ok (.iload 7, 2) := by decide +kernel
theorem dL_refuses_875 : decode cL_refuses 875 = .ok (.iconst 1, 1) := by decide +kernel
theorem dL_refuses_876 : decode cL_refuses 876 = .ok (.if_icmp .ne 13, 3) := by decide +kernel
theorem dL_refuses_879 : decode cL_refuses 879 = .ok (.iload 5, 2) := by decide +kernel
theorem dL_refuses_881 : decode cL_refuses 881 = .ok (.bipush 30, 2) := by decide +kernel
theorem dL_refuses_883 : decode cL_refuses 883 = .ok (.idiv, 1) := by decide +kernel
theorem dL_refuses_884 : decode cL_refuses 884 = .ok (.iconst 1, 1) := by decide +kernel
theorem dL_refuses_885 : decode cL_refuses 885 = .ok (.iadd, 1) := by decide +kernel
theorem dL_refuses_886 : decode cL_refuses 886 = .ok (.goto 5, 3) := by decide +kernel
theorem dL_refuses_889 : decode cL_refuses 889 = .ok (.iload 8, 2) := by decide +kernel
theorem dL_refuses_891 : decode cL_refuses 891 = .ok (.iconst 0, 1) := by decide +kernel
theorem dL_refuses_892 : decode cL_refuses 892 = .ok (.iconst 0, 1) := by decide +kernel
theorem dL_refuses_893 : decode cL_refuses 893 = .ok (.iconst 0, 1) := by decide +kernel
theorem dL_refuses_894 : decode cL_refuses 894 = .ok (.invokestatic 99, 3) := by decide +kernel
theorem dL_refuses_897 : decode cL_refuses 897 = .ok (.ldc 83, 2) := by decide +kernel
theorem dL_refuses_899 : decode cL_refuses 899 = .ok (.if_icmp .ne 85, 3) := by decide +kernel
theorem dL_refuses_902 : decode cL_refuses 902 = .ok (.aload_n 0, 1) := by decide +kernel
theorem dL_refuses_903 : decode cL_refuses 903 = .ok (.bipush 20, 2) := by decide +kernel
theorem dL_refuses_905 : decode cL_refuses 905 = .ok (.iload 9, 2) := by decide +kernel
theorem dL_refuses_907 : decode cL_refuses 907 = .ok (.iconst 0, 1) := by decide +kernel
theorem dL_refuses_908 : decode cL_refuses 908 = .ok (.iconst 0, 1) := by decide +kernel
theorem dL_refuses_909 : decode cL_refuses 909 = .ok (.iconst 0, 1) := by decide +kernel
theorem dL_refuses_910 : decode cL_refuses 910 = .ok (.iconst 0, 1) := by decide +kernel
theorem dL_refuses_911 : decode cL_refuses 911 = .ok (.invokestatic 99, 3) := by decide +kernel
theorem dL_refuses_914 : decode cL_refuses 914 = .ok (.ldc 83, 2) := by decide +kernel
theorem dL_refuses_916 : decode cL_refuses 916 = .ok (.if_icmp .ne 68, 3) := by decide +kernel
theorem dL_refuses_919 : decode cL_refuses 919 = .ok (.aload_n 0, 1) := by decide +kernel
theorem dL_refuses_920 : decode cL_refuses 920 = .ok (.bipush 20, 2) := by decide +kernel
theorem dL_refuses_922 : decode cL_refuses 922 = .ok (.iconst 0, 1) := by decide +kernel
theorem dL_refuses_923 : decode cL_refuses 923 = .ok (.iload 7, 2) := by decide +kernel
theorem dL_refuses_925 : decode cL_refuses 925 = .ok (.iconst 1, 1) := by decide +kernel
theorem dL_refuses_926 : decode cL_refuses 926 = .ok (.if_icmp .ne 13, 3) := by decide +kernel
theorem dL_refuses_929 : decode cL_refuses 929 = .ok (.iload 5, 2) := by decide +kernel
theorem dL_refuses_931 : decode cL_refuses 931 = .ok (.bipush 30, 2) := by decide +kernel
theorem dL_refuses_933 : decode cL_refuses 933 = .ok (.idiv, 1) := by decide +kernel
theorem dL_refuses_934 : decode cL_refuses 934 = .ok (.iconst 1, 1) := by decide +kernel
theorem dL_refuses_935 : decode cL_refuses 935 = .ok (.iadd, 1) := by decide +kernel
theorem dL_refuses_936 : decode cL_refuses 936 = .ok (.goto 5, 3) := by decide +kernel
theorem dL_refuses_939 : decode cL_refuses 939 = .ok (.iload 8, 2) := by decide +kernel
theorem dL_refuses_941 : decode cL_refuses 941 = .ok (.iconst 0, 1) := by decide +kernel
theorem dL_refuses_942 : decode cL_refuses 942 = .ok (.iconst 0, 1) := by decide +kernel
theorem dL_refuses_943 : decode cL_refuses 943 = .ok (.iconst 0, 1) := by decide +kernel
theorem dL_refuses_944 : decode cL_refuses 944 = .ok (.invokestatic 99, 3) := by decide +kernel
theorem dL_refuses_947 : decode cL_refuses 947 = .ok (.ldc 83, 2) := by decide +kernel
theorem dL_refuses_949 : decode cL_refuses 949 = .ok (.if_icmp .ne 35, 3) := by decide +kernel
theorem dL_refuses_952 : decode cL_refuses 952 = .ok (.aload_n 0, 1) := by decide +kernel
theorem dL_refuses_953 : decode cL_refuses 953 = .ok (.bipush 21, 2) := by decide +kernel
theorem dL_refuses_955 : decode cL_refuses 955 = .ok (.iload 7, 2) := by decide +kernel
theorem dL_refuses_957 : decode cL_refuses 957 = .ok (.iconst 1, 1) := by decide +kernel
theorem dL_refuses_958 : decode cL_refuses 958 = .ok (.if_icmp .ne 8, 3) := by decide +kernel
theorem dL_refuses_961 : decode cL_refuses 961 = .ok (.bipush 8, 2) := by decide +kernel
theorem dL_refuses_963 : decode cL_refuses 963 = .ok (.goto 5, 3) := by decide +kernel
theorem dL_refuses_966 : decode cL_refuses 966 = .ok (.iload 8, 2) := by decide +kernel
theorem dL_refuses_968 : decode cL_refuses 968 = .ok (.iconst 0, 1) := by decide +kernel
theorem dL_refuses_969 : decode cL_refuses 969 = .ok (.iconst 0, 1) := by decide +kernel
theorem dL_refuses_970 : decode cL_refuses 970 = .ok (.iconst 0, 1) := by decide +kernel
theorem dL_refuses_971 : decode cL_refuses 971 = .ok (.iconst 0, 1) := by decide +kernel
theorem dL_refuses_972 : decode cL_refuses 972 = .ok (.invokestatic 99, 3) := by decide +kernel
theorem dL_refuses_975 : decode cL_refuses 975 = .ok (.ldc 83, 2) := by decide +kernel
theorem dL_refuses_977 : decode cL_refuses 977 = .ok (.if_icmp .ne 7, 3) := by decide +kernel
theorem dL_refuses_980 : decode cL_refuses 980 = .ok (.iconst 1, 1) := by decide +kernel
theorem dL_refuses_981 : decode cL_refuses 981 = .ok (.goto 4, 3) := by decide +kernel
theorem dL_refuses_984 : decode cL_refuses 984 = .ok (.iconst 0, 1) := by decide +kernel
theorem dL_refuses_985 : decode cL_refuses 985 = .ok (.istore 14, 2) := by decide +kernel
theorem dL_refuses_987 : decode cL_refuses 987 = .ok (.iload 14, 2) := by decide +kernel
theorem dL_refuses_989 : decode cL_refuses 989 = .ok (.ifCond .eq 194, 3) := by decide +kernel
theorem dL_refuses_992 : decode cL_refuses 992 = .ok (.iload_n 1, 1) := by decide +kernel
theorem dL_refuses_993 : decode cL_refuses 993 = .ok (.ifCond .eq 186, 3) := by decide +kernel
theorem dL_refuses_996 : decode cL_refuses 996 = .ok (.aload_n 0, 1) := by decide +kernel
theorem dL_refuses_997 : decode cL_refuses 997 = .ok (.iconst 1, 1) := by decide +kernel
theorem dL_refuses_998 : decode cL_refuses 998 = .ok (.iconst 0, 1) := by decide +kernel
theorem dL_refuses_999 : decode cL_refuses 999 = .ok (.iload 11, 2) := by decide +kernel
theorem dL_refuses_1001 : decode cL_refuses 1001 = .ok (.bipush 7, 2) := by decide +kernel
theorem dL_refuses_1003 : decode cL_refuses 1003 = .ok (.iconst 0, 1) := by decide +kernel
theorem dL_refuses_1004 : decode cL_refuses 1004 = .ok (.iconst 0, 1) := by decide +kernel
theorem dL_refuses_1005 : decode cL_refuses 1005 = .ok (.invokestatic 99, 3) := by decide +kernel
theorem dL_refuses_1008 : decode cL_refuses 1008 = .ok (.ldc 86, 2) := by decide +kernel
theorem dL_refuses_1010 : decode cL_refuses 1010 = .ok (.if_icmp .ne 173, 3) := by decide +kernel
theorem dL_refuses_1013 : decode cL_refuses 1013 = .ok (.aload_n 0, 1) := by decide +kernel
theorem dL_refuses_1014 : decode cL_refuses 1014 = .ok (.iconst 1, 1) := by decide +kernel
theorem dL_refuses_1015 : decode cL_refuses 1015 = .ok (.iconst 0, 1) := by decide +kernel
theorem dL_refuses_1016 : decode cL_refuses 1016 = .ok (.iconst 1, 1) := by decide +kernel
theorem dL_refuses_1017 : decode cL_refuses 1017 = .ok (.iload 13, 2) := by decide +kernel
theorem dL_refuses_1019 : decode cL_refuses 1019 = .ok (.iconst 0, 1) := by decide +kernel
theorem dL_refuses_1020 : decode cL_refuses 1020 = .ok (.iconst 0, 1) := by decide +kernel
theorem dL_refuses_1021 : decode cL_refuses 1021 = .ok (.invokestatic 99, 3) := by decide +kernel
theorem dL_refuses_1024 : decode cL_refuses 1024 = .ok (.ldc 86, 2) := by decide +kernel
theorem dL_refuses_1026 : decode cL_refuses 1026 = .ok (.if_icmp .ne 157, 3) := by decide +kernel
theorem dL_refuses_1029 : decode cL_refuses 1029 = .ok (.aload_n 0, 1) := by decide +kernel
theorem dL_refuses_1030 : decode cL_refuses 1030 = .ok (.iconst 4, 1) := by decide +kernel
theorem dL_refuses_1031 : decode cL_refuses 1031 = .ok (.iconst 0, 1) := by decide +kernel
theorem dL_refuses_1032 : decode cL_refuses 1032 = .ok (.iconst 0, 1) := by decide +kernel
theorem dL_refuses_1033 : decode cL_refuses 1033 = .ok (.iload 11, 2) := by decide +kernel
theorem dL_refuses_1035 : decode cL_refuses 1035 = .ok (.iconst 0, 1) := by decide +kernel
theorem dL_refuses_1036 : decode cL_refuses 1036 = .ok (.iconst 0, 1) := by decide +kernel
theorem dL_refuses_1037 : decode cL_refuses 1037 = .ok (.invokestatic 99, 3) := by decide +kernel
theorem dL_refuses_1040 : decode cL_refuses 1040 = .ok (.ldc 86, 2) := by decide +kernel
theorem dL_refuses_1042 : decode cL_refuses 1042 = .ok (.if_icmp .ne 141, 3) := by decide +kernel
theorem dL_refuses_1045 : decode cL_refuses 1045 = .ok (.aload_n 0, 1) := by decide +kernel
theorem dL_refuses_1046 : decode cL_refuses 1046 = .ok (.bipush 7, 2) := by decide +kernel
theorem dL_refuses_1048 : decode cL_refuses 1048 = .ok (.iconst 0, 1) := by decide +kernel
theorem dL_refuses_1049 : decode cL_refuses 1049 = .ok (.aload_n 0, 1) := by decide +kernel
theorem dL_refuses_1050 : decode cL_refuses 1050 = .ok (.iconst 0, 1) := by decide +kernel
theorem dL_refuses_1051 : decode cL_refuses 1051 = .ok (.iconst 1, 1) := by decide +kernel
theorem dL_refuses_1052 : decode cL_refuses 1052 = .ok (.invokevirtual 54, 3) := by decide +kernel
theorem dL_refuses_1055 : decode cL_refuses 1055 = .ok (.iconst 5, 1) := by decide +kernel
theorem dL_refuses_1056 : decode cL_refuses 1056 = .ok (.iconst 0, 1) := by decide +kernel
theorem dL_refuses_1057 : decode cL_refuses 1057 = .ok (.iconst 0, 1) := by decide +kernel
theorem dL_refuses_1058 : decode cL_refuses 1058 = .ok (.invokestatic 99, 3) := by decide +kernel
theorem dL_refuses_1061 : decode cL_refuses 1061 = .ok (.ldc 86, 2) := by decide +kernel
theorem dL_refuses_1063 : decode cL_refuses 1063 = .ok (.if_icmp .ne 120, 3) := by decide +kernel
theorem dL_refuses_1066 : decode cL_refuses 1066 = .ok (.aload_n 0, 1) := by decide +kernel
theorem dL_refuses_1067 : decode cL_refuses 1067 = .ok (.bipush 7, 2) := by decide +kernel
theorem dL_refuses_1069 : decode cL_refuses 1069 = .ok (.iconst 0, 1) := by decide +kernel
theorem dL_refuses_1070 : decode cL_refuses 1070 = .ok (.aload_n 0, 1) := by decide +kernel
theorem dL_refuses_1071 : decode cL_refuses 1071 = .ok (.iconst 0, 1) := by decide +kernel
theorem dL_refuses_1072 : decode cL_refuses 1072 = .ok (.iconst 2, 1) := by decide +kernel
theorem dL_refuses_1073 : decode cL_refuses 1073 = .ok (.invokevirtual 54, 3) := by decide +kernel
theorem dL_refuses_1076 : decode cL_refuses 1076 = .ok (.iconst 5, 1) := by decide +kernel
theorem dL_refuses_1077 : decode cL_refuses 1077 = .ok (.iconst 0, 1) := by decide +kernel
theorem dL_refuses_1078 : decode cL_refuses 1078 = .ok (.iconst 0, 1) := by decide +kernel
theorem dL_refuses_1079 : decode cL_refuses 1079 = .ok (.invokestatic 99, 3) := by decide +kernel
theorem dL_refuses_1082 : decode cL_refuses 1082 = .ok (.ldc 86, 2) := by decide +kernel
theorem dL_refuses_1084 : decode cL_refuses 1084 = .ok (.if_icmp .ne 99, 3) := by decide +kernel
theorem dL_refuses_1087 : decode cL_refuses 1087 = .ok (.aload_n 0, 1) := by decide +kernel
theorem dL_refuses_1088 : decode cL_refuses 1088 = .ok (.bipush 7, 2) := by decide +kernel
theorem dL_refuses_1090 : decode cL_refuses 1090 = .ok (.iconst 0, 1) := by decide +kernel
theorem dL_refuses_1091 : decode cL_refuses 1091 = .ok (.iconst 5, 1) := by decide +kernel
theorem dL_refuses_1092 : decode cL_refuses 1092 = .ok (.iload 7, 2) := by decide +kernel
theorem dL_refuses_1094 : decode cL_refuses 1094 = .ok (.ifCond .ne 7, 3) := by decide +kernel
theorem dL_refuses_1097 : decode cL_refuses 1097 = .ok (.iconst 0, 1) := by decide +kernel
theorem dL_refuses_1098 : decode cL_refuses 1098 = .ok (.goto 16, 3) := by decide +kernel
theorem dL_refuses_1101 : decode cL_refuses 1101 = .ok (.iload 7, 2) := by decide +kernel
theorem dL_refuses_1103 : decode cL_refuses 1103 = .ok (.iconst 1, 1) := by decide +kernel
theorem dL_refuses_1104 : decode cL_refuses 1104 = .ok (.if_icmp .ne 8, 3) := by decide +kernel
theorem dL_refuses_1107 : decode cL_refuses 1107 = .ok (.bipush 101, 2) := by decide +kernel
theorem dL_refuses_1109 : decode cL_refuses 1109 = .ok (.goto 5, 3) := by decide +kernel
theorem dL_refuses_1112 : decode cL_refuses 1112 = .ok (.iload 8, 2) := by decide +kernel
theorem dL_refuses_1114 : decode cL_refuses 1114 = .ok (.iconst 0, 1) := by decide +kernel
theorem dL_refuses_1115 : decode cL_refuses 1115 = .ok (.iconst 0, 1) := by decide +kernel
theorem dL_refuses_1116 : decode cL_refuses 1116 = .ok (.invokestatic 99, 3) := by decide +kernel
theorem dL_refuses_1119 : decode cL_refuses 1119 = .ok (.ldc 86, 2) := by decide +kernel
theorem dL_refuses_1121 : decode cL_refuses 1121 = .ok (.if_icmp .ne 62, 3) := by decide +kernel
theorem dL_refuses_1124 : decode cL_refuses 1124 = .ok (.aload_n 0, 1) := by decide +kernel
theorem dL_refuses_1125 : decode cL_refuses 1125 = .ok (.bipush 13, 2) := by decide +kernel
theorem dL_refuses_1127 : decode cL_refuses 1127 = .ok (.iconst 0, 1) := by decide +kernel
theorem dL_refuses_1128 : decode cL_refuses 1128 = .ok (.iload 7, 2) := by decide +kernel
theorem dL_refuses_1130 : decode cL_refuses 1130 = .ok (.iconst 1, 1) := by decide +kernel
theorem dL_refuses_1131 : decode cL_refuses 1131 = .ok (.if_icmp .ne 8, 3) := by decide +kernel
theorem dL_refuses_1134 : decode cL_refuses 1134 = .ok (.bipush 10, 2) := by decide +kernel
theorem dL_refuses_1136 : decode cL_refuses 1136 = .ok (.goto 5, 3) := by decide +kernel
theorem dL_refuses_1139 : decode cL_refuses 1139 = .ok (.iload 8, 2) := by decide +kernel
theorem dL_refuses_1141 : decode cL_refuses 1141 = .ok (.iconst 0, 1) := by decide +kernel
theorem dL_refuses_1142 : decode cL_refuses 1142 = .ok (.iconst 0, 1) := by decide +kernel
theorem dL_refuses_1143 : decode cL_refuses 1143 = .ok (.iconst 0, 1) := by decide +kernel
theorem dL_refuses_1144 : decode cL_refuses 1144 = .ok (.invokestatic 99, 3) := by decide +kernel
theorem dL_refuses_1147 : decode cL_refuses 1147 = .ok (.ldc 86, 2) := by decide +kernel
theorem dL_refuses_1149 : decode cL_refuses 1149 = .ok (.if_icmp .ne 34, 3) := by decide +kernel
theorem dL_refuses_1152 : decode cL_refuses 1152 = .ok (.aload_n 0, 1) := by decide +kernel
theorem dL_refuses_1153 : decode cL_refuses 1153 = .ok (.bipush 14, 2) := by decide +kernel
theorem dL_refuses_1155 : decode cL_refuses 1155 = .ok (.iconst 0, 1) := by decide +kernel
theorem dL_refuses_1156 : decode cL_refuses 1156 = .ok (.iconst 0, 1) := by decide +kernel
theorem dL_refuses_1157 : decode cL_refuses 1157 = .ok (.iload 7, 2) := by decide +kernel
theorem dL_refuses_1159 : decode cL_refuses 1159 = .ok (.iconst 1, 1) := by decide +kernel
theorem dL_refuses_1160 : decode cL_refuses 1160 = .ok (.if_icmp .ne 7, 3) := by decide +kernel
theorem dL_refuses_1163 : decode cL_refuses 1163 = .ok (.iconst 5, 1) := by decide +kernel
theorem dL_refuses_1164 : decode cL_refuses 1164 = .ok (.goto 5, 3) := by decide +kernel
theorem dL_refuses_1167 : decode cL_refuses 1167 = .ok (.iload 8, 2) := by decide +kernel
theorem dL_refuses_1169 : decode cL_refuses 1169 = .ok (.iconst 0, 1) := by decide +kernel
theorem dL_refuses_1170 : decode cL_refuses 1170 = .ok (.iconst 0, 1) := by decide +kernel
theorem dL_refuses_1171 : decode cL_refuses 1171 = .ok (.invokestatic 99, 3) := by decide +kernel
theorem dL_refuses_1174 : decode cL_refuses 1174 = .ok (.ldc 86, 2) := by decide +kernel
theorem dL_refuses_1176 : decode cL_refuses 1176 = .ok (.if_icmp .ne 7, 3) := by decide +kernel
theorem dL_refuses_1179 : decode cL_refuses 1179 = .ok (.iconst 1, 1) := by decide +kernel
theorem dL_refuses_1180 : decode cL_refuses 1180 = .ok (.goto 4, 3) := by decide +kernel
theorem dL_refuses_1183 : decode cL_refuses 1183 = .ok (.iconst 0, 1) := by decide +kernel
theorem dL_refuses_1184 : decode cL_refuses 1184 = .ok (.istore 14, 2) := by decide +kernel
theorem dL_refuses_1186 : decode cL_refuses 1186 = .ok (.iload 14, 2) := by decide +kernel
theorem dL_refuses_1188 : decode cL_refuses 1188 = .ok (.ifCond .ne 5, 3) := by decide +kernel
theorem dL_refuses_1191 : decode cL_refuses 1191 = .ok (.iconst 0, 1) := by decide +kernel
theorem dL_refuses_1192 : decode cL_refuses 1192 = .ok (.ireturn, 1) := by decide +kernel
theorem dL_refuses_1193 : decode cL_refuses 1193 = .ok (.iinc 7 1, 3) := by decide +kernel
theorem dL_refuses_1196 : decode cL_refuses 1196 = .ok (.goto (-1165), 3) := by decide +kernel
theorem dL_refuses_1199 : decode cL_refuses 1199 = .ok (.aload_n 0, 1) := by decide +kernel
theorem dL_refuses_1200 : decode cL_refuses 1200 = .ok (.iconst 1, 1) := by decide +kernel
theorem dL_refuses_1201 : decode cL_refuses 1201 = .ok (.invokevirtual 60, 3) := by decide +kernel
theorem dL_refuses_1204 : decode cL_refuses 1204 = .ok (.iload_n 3, 1) := by decide +kernel
theorem dL_refuses_1205 : decode cL_refuses 1205 = .ok (.if_icmp .ne 51, 3) := by decide +kernel
theorem dL_refuses_1208 : decode cL_refuses 1208 = .ok (.aload_n 0, 1) := by decide +kernel
theorem dL_refuses_1209 : decode cL_refuses 1209 = .ok (.iconst 1, 1) := by decide +kernel
theorem dL_refuses_1210 : decode cL_refuses 1210 = .ok (.invokevirtual 69, 3) := by decide +kernel
theorem dL_refuses_1213 : decode cL_refuses 1213 = .ok (.iload 4, 2) := by decide +kernel
theorem dL_refuses_1215 : decode cL_refuses 1215 = .ok (.if_icmp .ne 41, 3) := by decide +kernel
theorem dL_refuses_1218 : decode cL_refuses 1218 = .ok (.aload_n 0, 1) := by decide +kernel
theorem dL_refuses_1219 : decode cL_refuses 1219 = .ok (.invokevirtual 91, 3) := by decide +kernel
theorem dL_refuses_1222 : decode cL_refuses 1222 = .ok (.iload 5, 2) := by decide +kernel
theorem dL_refuses_1224 : decode cL_refuses 1224 = .ok (.if_icmp .ne 32, 3) := by decide +kernel
theorem dL_refuses_1227 : decode cL_refuses 1227 = .ok (.aload_n 0, 1) := by decide +kernel
theorem dL_refuses_1228 : decode cL_refuses 1228 = .ok (.invokevirtual 95, 3) := by decide +kernel
theorem dL_refuses_1231 : decode cL_refuses 1231 = .ok (.iload 6, 2) := by decide +kernel
theorem dL_refuses_1233 : decode cL_refuses 1233 = .ok (.if_icmp .ne 23, 3) := by decide +kernel
theorem dL_refuses_1236 : decode cL_refuses 1236 = .ok (.aload_n 0, 1) := by decide +kernel
theorem dL_refuses_1237 : decode cL_refuses 1237 = .ok (.bipush 13, 2) := by decide +kernel
theorem dL_refuses_1239 : decode cL_refuses 1239 = .ok (.iload_n 1, 1) := by decide +kernel
theorem dL_refuses_1240 : decode cL_refuses 1240 = .ok (.iconst 0, 1) := by decide +kernel
theorem dL_refuses_1241 : decode cL_refuses 1241 = .ok (.iconst 0, 1) := by decide +kernel
theorem dL_refuses_1242 : decode cL_refuses 1242 = .ok (.iconst 0, 1) := by decide +kernel
theorem dL_refuses_1243 : decode cL_refuses 1243 = .ok (.iconst 0, 1) := by decide +kernel
theorem dL_refuses_1244 : decode cL_refuses 1244 = .ok (.invokestatic 99, 3) := by decide +kernel
theorem dL_refuses_1247 : decode cL_refuses 1247 = .ok (.ldc 83, 2) := by decide +kernel
theorem dL_refuses_1249 : decode cL_refuses 1249 = .ok (.if_icmp .ne 7, 3) := by decide +kernel
theorem dL_refuses_1252 : decode cL_refuses 1252 = .ok (.iconst 1, 1) := by decide +kernel
theorem dL_refuses_1253 : decode cL_refuses 1253 = .ok (.goto 4, 3) := by decide +kernel
theorem dL_refuses_1256 : decode cL_refuses 1256 = .ok (.iconst 0, 1) := by decide +kernel
theorem dL_refuses_1257 : decode cL_refuses 1257 = .ok (.ireturn, 1) := by decide +kernel
