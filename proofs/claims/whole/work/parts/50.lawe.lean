theorem dL_law_675 : decode bL_law 675 = .ok (.iconst 3, 1) := by decide +kernel
theorem dL_law_676 : decode bL_law 676 = .ok (.iadd, 1) := by decide +kernel
theorem dL_law_677 : decode bL_law 677 = .ok (.iaload, 1) := by decide +kernel
theorem dL_law_678 : decode bL_law 678 = .ok (.invokevirtual 114, 3) := by decide +kernel
theorem dL_law_681 : decode bL_law 681 = .ok (.aload_n 2, 1) := by decide +kernel
theorem dL_law_682 : decode bL_law 682 = .ok (.invokevirtual 83, 3) := by decide +kernel
theorem dL_law_685 : decode bL_law 685 = .ok (.iload 5, 2) := by decide +kernel
theorem dL_law_687 : decode bL_law 687 = .ok (.if_icmp .eq 5, 3) := by decide +kernel
theorem dL_law_690 : decode bL_law 690 = .ok (.iconst 0, 1) := by decide +kernel
theorem dL_law_691 : decode bL_law 691 = .ok (.ireturn, 1) := by decide +kernel
theorem dL_law_692 : decode bL_law 692 = .ok (.goto 582, 3) := by decide +kernel
theorem dL_law_695 : decode bL_law 695 = .ok (.aload_n 1, 1) := by decide +kernel
theorem dL_law_696 : decode bL_law 696 = .ok (.aload_n 0, 1) := by decide +kernel
theorem dL_law_697 : decode bL_law 697 = .ok (.iload 4, 2) := by decide +kernel
theorem dL_law_699 : decode bL_law 699 = .ok (.iconst 1, 1) := by decide +kernel
theorem dL_law_700 : decode bL_law 700 = .ok (.iadd, 1) := by decide +kernel
theorem dL_law_701 : decode bL_law 701 = .ok (.iaload, 1) := by decide +kernel
theorem dL_law_702 : decode bL_law 702 = .ok (.aload_n 0, 1) := by decide +kernel
theorem dL_law_703 : decode bL_law 703 = .ok (.iload 4, 2) := by decide +kernel
theorem dL_law_705 : decode bL_law 705 = .ok (.iconst 2, 1) := by decide +kernel
theorem dL_law_706 : decode bL_law 706 = .ok (.iadd, 1) := by decide +kernel
theorem dL_law_707 : decode bL_law 707 = .ok (.iaload, 1) := by decide +kernel
theorem dL_law_708 : decode bL_law 708 = .ok (.aload_n 0, 1) := by decide +kernel
theorem dL_law_709 : decode bL_law 709 = .ok (.iload 4, 2) := by decide +kernel
theorem dL_law_711 : decode bL_law 711 = .ok (.iconst 3, 1) := by decide +kernel
theorem dL_law_712 : decode bL_law 712 = .ok (.iadd, 1) := by decide +kernel
theorem dL_law_713 : decode bL_law 713 = .ok (.iaload, 1) := by decide +kernel
theorem dL_law_714 : decode bL_law 714 = .ok (.aload_n 0, 1) := by decide +kernel
theorem dL_law_715 : decode bL_law 715 = .ok (.iload 4, 2) := by decide +kernel
theorem dL_law_717 : decode bL_law 717 = .ok (.iconst 4, 1) := by decide +kernel
theorem dL_law_718 : decode bL_law 718 = .ok (.iadd, 1) := by decide +kernel
theorem dL_law_719 : decode bL_law 719 = .ok (.iaload, 1) := by decide +kernel
theorem dL_law_720 : decode bL_law 720 = .ok (.aload_n 0, 1) := by decide +kernel
theorem dL_law_721 : decode bL_law 721 = .ok (.iload 4, 2) := by decide +kernel
theorem dL_law_723 : decode bL_law 723 = .ok (.iconst 5, 1) := by decide +kernel
theorem dL_law_724 : decode bL_law 724 = .ok (.iadd, 1) := by decide +kernel
theorem dL_law_725 : decode bL_law 725 = .ok (.iaload, 1) := by decide +kernel
theorem dL_law_726 : decode bL_law 726 = .ok (.invokestatic 115, 3) := by decide +kernel
theorem dL_law_729 : decode bL_law 729 = .ok (.istore 5, 2) := by decide +kernel
theorem dL_law_731 : decode bL_law 731 = .ok (.aload_n 2, 1) := by decide +kernel
theorem dL_law_732 : decode bL_law 732 = .ok (.aload_n 0, 1) := by decide +kernel
theorem dL_law_733 : decode bL_law 733 = .ok (.iload 4, 2) := by decide +kernel
theorem dL_law_735 : decode bL_law 735 = .ok (.iconst 1, 1) := by decide +kernel
theorem dL_law_736 : decode bL_law 736 = .ok (.iadd, 1) := by decide +kernel
theorem dL_law_737 : decode bL_law 737 = .ok (.iaload, 1) := by decide +kernel
theorem dL_law_738 : decode bL_law 738 = .ok (.aload_n 0, 1) := by decide +kernel
theorem dL_law_739 : decode bL_law 739 = .ok (.iload 4, 2) := by decide +kernel
theorem dL_law_741 : decode bL_law 741 = .ok (.iconst 2, 1) := by decide +kernel
theorem dL_law_742 : decode bL_law 742 = .ok (.iadd, 1) := by decide +kernel
theorem dL_law_743 : decode bL_law 743 = .ok (.iaload, 1) := by decide +kernel
theorem dL_law_744 : decode bL_law 744 = .ok (.aload_n 0, 1) := by decide +kernel
theorem dL_law_745 : decode bL_law 745 = .ok (.iload 4, 2) := by decide +kernel
theorem dL_law_747 : decode bL_law 747 = .ok (.iconst 3, 1) := by decide +kernel
theorem dL_law_748 : decode bL_law 748 = .ok (.iadd, 1) := by decide +kernel
theorem dL_law_749 : decode bL_law 749 = .ok (.iaload, 1) := by decide +kernel
theorem dL_law_750 : decode bL_law 750 = .ok (.aload_n 0, 1) := by decide +kernel
theorem dL_law_751 : decode bL_law 751 = .ok (.iload 4, 2) := by decide +kernel
theorem dL_law_753 : decode bL_law 753 = .ok (.iconst 4, 1) := by decide +kernel
theorem dL_law_754 : decode bL_law 754 = .ok (.iadd, 1) := by decide +kernel
theorem dL_law_755 : decode bL_law 755 = .ok (.iaload, 1) := by decide +kernel
theorem dL_law_756 : decode bL_law 756 = .ok (.aload_n 0, 1) := by decide +kernel
theorem dL_law_757 : decode bL_law 757 = .ok (.iload 4, 2) := by decide +kernel
theorem dL_law_759 : decode bL_law 759 = .ok (.iconst 5, 1) := by decide +kernel
theorem dL_law_760 : decode bL_law 760 = .ok (.iadd, 1) := by decide +kernel
theorem dL_law_761 : decode bL_law 761 = .ok (.iaload, 1) := by decide +kernel
theorem dL_law_762 : decode bL_law 762 = .ok (.invokevirtual 118, 3) := by decide +kernel
theorem dL_law_765 : decode bL_law 765 = .ok (.aload_n 2, 1) := by decide +kernel
theorem dL_law_766 : decode bL_law 766 = .ok (.invokevirtual 83, 3) := by decide +kernel
theorem dL_law_769 : decode bL_law 769 = .ok (.iload 5, 2) := by decide +kernel
theorem dL_law_771 : decode bL_law 771 = .ok (.if_icmp .eq 5, 3) := by decide +kernel
theorem dL_law_774 : decode bL_law 774 = .ok (.iconst 0, 1) := by decide +kernel
theorem dL_law_775 : decode bL_law 775 = .ok (.ireturn, 1) := by decide +kernel
theorem dL_law_776 : decode bL_law 776 = .ok (.goto 498, 3) := by decide +kernel
theorem dL_law_779 : decode bL_law 779 = .ok (.aload_n 1, 1) := by decide +kernel
theorem dL_law_780 : decode bL_law 780 = .ok (.aload_n 0, 1) := by decide +kernel
theorem dL_law_781 : decode bL_law 781 = .ok (.iload 4, 2) := by decide +kernel
theorem dL_law_783 : decode bL_law 783 = .ok (.iconst 1, 1) := by decide +kernel
theorem dL_law_784 : decode bL_law 784 = .ok (.iadd, 1) := by decide +kernel
theorem dL_law_785 : decode bL_law 785 = .ok (.iaload, 1) := by decide +kernel
theorem dL_law_786 : decode bL_law 786 = .ok (.ifCond .eq 7, 3) := by decide +kernel
theorem dL_law_789 : decode bL_law 789 = .ok (.iconst 1, 1) := by decide +kernel
theorem dL_law_790 : decode bL_law 790 = .ok (.goto 4, 3) := by decide +kernel
theorem dL_law_793 : decode bL_law 793 = .ok (.iconst 0, 1) := by decide +kernel
theorem dL_law_794 : decode bL_law 794 = .ok (.aload_n 0, 1) := by decide +kernel
theorem dL_law_795 : decode bL_law 795 = .ok (.iload 4, 2) := by decide +kernel
theorem dL_law_797 : decode bL_law 797 = .ok (.iconst 2, 1) := by decide +kernel
theorem dL_law_798 : decode bL_law 798 = .ok (.iadd, 1) := by decide +kernel
theorem dL_law_799 : decode bL_law 799 = .ok (.iaload, 1) := by decide +kernel
theorem dL_law_800 : decode bL_law 800 = .ok (.aload_n 0, 1) := by decide +kernel
theorem dL_law_801 : decode bL_law 801 = .ok (.iload 4, 2) := by decide +kernel
theorem dL_law_803 : decode bL_law 803 = .ok (.iconst 3, 1) := by decide +kernel
theorem dL_law_804 : decode bL_law 804 = .ok (.iadd, 1) := by decide +kernel
theorem dL_law_805 : decode bL_law 805 = .ok (.iaload, 1) := by decide +kernel
theorem dL_law_806 : decode bL_law 806 = .ok (.aload_n 0, 1) := by decide +kernel
theorem dL_law_807 : decode bL_law 807 = .ok (.iload 4, 2) := by decide +kernel
theorem dL_law_809 : decode bL_law 809 = .ok (.iconst 4, 1) := by decide +kernel
theorem dL_law_810 : decode bL_law 810 = .ok (.iadd, 1) := by decide +kernel
theorem dL_law_811 : decode bL_law 811 = .ok (.iaload, 1) := by decide +kernel
theorem dL_law_812 : decode bL_law 812 = .ok (.invokestatic 119, 3) := by decide +kernel
theorem dL_law_815 : decode bL_law 815 = .ok (.istore 5, 2) := by decide +kernel
theorem dL_law_817 : decode bL_law 817 = .ok (.aload_n 2, 1) := by decide +kernel
theorem dL_law_818 : decode bL_law 818 = .ok (.aload_n 0, 1) := by decide +kernel
theorem dL_law_819 : decode bL_law 819 = .ok (.iload 4, 2) := by decide +kernel
theorem dL_law_821 : decode bL_law 821 = .ok (.iconst 1, 1) := by decide +kernel
theorem dL_law_822 : decode bL_law 822 = .ok (.iadd, 1) := by decide +kernel
theorem dL_law_823 : decode bL_law 823 = .ok (.iaload, 1) := by decide +kernel
theorem dL_law_824 : decode bL_law 824 = .ok (.ifCond .eq 7, 3) := by decide +kernel
theorem dL_law_827 : decode bL_law 827 = .ok (.iconst 1, 1) := by decide +kernel
theorem dL_law_828 : decode bL_law 828 = .ok (.goto 4, 3) := by decide +kernel
theorem dL_law_831 : decode bL_law 831 = .ok (.iconst 0, 1) := by decide +kernel
theorem dL_law_832 : decode bL_law 832 = .ok (.aload_n 0, 1) := by decide +kernel
theorem dL_law_833 : decode bL_law 833 = .ok (.iload 4, 2) := by decide +kernel
theorem dL_law_835 : decode bL_law 835 = .ok (.iconst 2, 1) := by decide +kernel
theorem dL_law_836 : decode bL_law 836 = .ok (.iadd, 1) := by decide +kernel
theorem dL_law_837 : decode bL_law 837 = .ok (.iaload, 1) := by decide +kernel
theorem dL_law_838 : decode bL_law 838 = .ok (.aload_n 0, 1) := by decide +kernel
theorem dL_law_839 : decode bL_law 839 = .ok (.iload 4, 2) := by decide +kernel
theorem dL_law_841 : decode bL_law 841 = .ok (.iconst 3, 1) := by decide +kernel
theorem dL_law_842 : decode bL_law 842 = .ok (.iadd, 1) := by decide +kernel
theorem dL_law_843 : decode bL_law 843 = .ok (.iaload, 1) := by decide +kernel
theorem dL_law_844 : decode bL_law 844 = .ok (.aload_n 0, 1) := by decide +kernel
theorem dL_law_845 : decode bL_law 845 = .ok (.iload 4, 2) := by decide +kernel
theorem dL_law_847 : decode bL_law 847 = .ok (.iconst 4, 1) := by decide +kernel
theorem dL_law_848 : decode bL_law 848 = .ok (.iadd, 1) := by decide +kernel
theorem dL_law_849 : decode bL_law 849 = .ok (.iaload, 1) := by decide +kernel
theorem dL_law_850 : decode bL_law 850 = .ok (.invokevirtual 122, 3) := by decide +kernel
theorem dL_law_853 : decode bL_law 853 = .ok (.aload_n 2, 1) := by decide +kernel
theorem dL_law_854 : decode bL_law 854 = .ok (.invokevirtual 83, 3) := by decide +kernel
theorem dL_law_857 : decode bL_law 857 = .ok (.iload 5, 2) := by decide +kernel
theorem dL_law_859 : decode bL_law 859 = .ok (.if_icmp .eq 5, 3) := by decide +kernel
theorem dL_law_862 : decode bL_law 862 = .ok (.iconst 0, 1) := by decide +kernel
theorem dL_law_863 : decode bL_law 863 = .ok (.ireturn, 1) := by decide +kernel
theorem dL_law_864 : decode bL_law 864 = .ok (.goto 410, 3) := by decide +kernel
theorem dL_law_867 : decode bL_law 867 = .ok (.aload_n 1, 1) := by decide +kernel
theorem dL_law_868 : decode bL_law 868 = .ok (.aload_n 0, 1) := by decide +kernel
theorem dL_law_869 : decode bL_law 869 = .ok (.iload 4, 2) := by decide +kernel
theorem dL_law_871 : decode bL_law 871 = .ok (.iconst 1, 1) := by decide +kernel
theorem dL_law_872 : decode bL_law 872 = .ok (.iadd, 1) := by decide +kernel
theorem dL_law_873 : decode bL_law 873 = .ok (.iaload, 1) := by decide +kernel
theorem dL_law_874 : decode bL_law 874 = .ok (.aload_n 0, 1) := by decide +kernel
theorem dL_law_875 : decode bL_law 875 = .ok (.iload 4, 2) := by decide +kernel
theorem dL_law_877 : decode bL_law 877 = .ok (.iconst 2, 1) := by decide +kernel
theorem dL_law_878 : decode bL_law 878 = .ok (.iadd, 1) := by decide +kernel
theorem dL_law_879 : decode bL_law 879 = .ok (.iaload, 1) := by decide +kernel
theorem dL_law_880 : decode bL_law 880 = .ok (.aload_n 0, 1) := by decide +kernel
theorem dL_law_881 : decode bL_law 881 = .ok (.iload 4, 2) := by decide +kernel
theorem dL_law_883 : decode bL_law 883 = .ok (.iconst 3, 1) := by decide +kernel
theorem dL_law_884 : decode bL_law 884 = .ok (.iadd, 1) := by decide +kernel
theorem dL_law_885 : decode bL_law 885 = .ok (.iaload, 1) := by decide +kernel
theorem dL_law_886 : decode bL_law 886 = .ok (.aload_n 0, 1) := by decide +kernel
theorem dL_law_887 : decode bL_law 887 = .ok (.iload 4, 2) := by decide +kernel
theorem dL_law_889 : decode bL_law 889 = .ok (.iconst 4, 1) := by decide +kernel
theorem dL_law_890 : decode bL_law 890 = .ok (.iadd, 1) := by decide +kernel
theorem dL_law_891 : decode bL_law 891 = .ok (.iaload, 1) := by decide +kernel
theorem dL_law_892 : decode bL_law 892 = .ok (.invokestatic 123, 3) := by decide +kernel
theorem dL_law_895 : decode bL_law 895 = .ok (.istore 5, 2) := by decide +kernel
theorem dL_law_897 : decode bL_law 897 = .ok (.aload_n 2, 1) := by decide +kernel
theorem dL_law_898 : decode bL_law 898 = .ok (.aload_n 0, 1) := by decide +kernel
theorem dL_law_899 : decode bL_law 899 = .ok (.iload 4, 2) := by decide +kernel
theorem dL_law_901 : decode bL_law 901 = .ok (.iconst 1, 1) := by decide +kernel
theorem dL_law_902 : decode bL_law 902 = .ok (.iadd, 1) := by decide +kernel
theorem dL_law_903 : decode bL_law 903 = .ok (.iaload, 1) := by decide +kernel
theorem dL_law_904 : decode bL_law 904 = .ok (.aload_n 0, 1) := by decide +kernel
theorem dL_law_905 : decode bL_law 905 = .ok (.iload 4, 2) := by decide +kernel
theorem dL_law_907 : decode bL_law 907 = .ok (.iconst 2, 1) := by decide +kernel
theorem dL_law_908 : decode bL_law 908 = .ok (.iadd, 1) := by decide +kernel
theorem dL_law_909 : decode bL_law 909 = .ok (.iaload, 1) := by decide +kernel
theorem dL_law_910 : decode bL_law 910 = .ok (.aload_n 0, 1) := by decide +kernel
theorem dL_law_911 : decode bL_law 911 = .ok (.iload 4, 2) := by decide +kernel
theorem dL_law_913 : decode bL_law 913 = .ok (.iconst 3, 1) := by decide +kernel
theorem dL_law_914 : decode bL_law 914 = .ok (.iadd, 1) := by decide +kernel
theorem dL_law_915 : decode bL_law 915 = .ok (.iaload, 1) := by decide +kernel
theorem dL_law_916 : decode bL_law 916 = .ok (.aload_n 0, 1) := by decide +kernel
theorem dL_law_917 : decode bL_law 917 = .ok (.iload 4, 2) := by decide +kernel
theorem dL_law_919 : decode bL_law 919 = .ok (.iconst 4, 1) := by decide +kernel
theorem dL_law_920 : decode bL_law 920 = .ok (.iadd, 1) := by decide +kernel
theorem dL_law_921 : decode bL_law 921 = .ok (.iaload, 1) := by decide +kernel
theorem dL_law_922 : decode bL_law 922 = .ok (.invokevirtual 126, 3) := by decide +kernel
theorem dL_law_925 : decode bL_law 925 = .ok (.aload_n 2, 1) := by decide +kernel
theorem dL_law_926 : decode bL_law 926 = .ok (.invokevirtual 83, 3) := by decide +kernel
theorem dL_law_929 : decode bL_law 929 = .ok (.iload 5, 2) := by decide +kernel
theorem dL_law_931 : decode bL_law 931 = .ok (.if_icmp .eq 5, 3) := by decide +kernel
theorem dL_law_934 : decode bL_law 934 = .ok (.iconst 0, 1) := by decide +kernel
theorem dL_law_935 : decode bL_law 935 = .ok (.ireturn, 1) := by decide +kernel
theorem dL_law_936 : decode bL_law 936 = .ok (.goto 338, 3) := by decide +kernel
theorem dL_law_939 : decode bL_law 939 = .ok (.aload_n 1, 1) := by decide +kernel
theorem dL_law_940 : decode bL_law 940 = .ok (.aload_n 0, 1) := by decide +kernel
theorem dL_law_941 : decode bL_law 941 = .ok (.iload 4, 2) := by decide +kernel
theorem dL_law_943 : decode bL_law 943 = .ok (.iconst 1, 1) := by decide +kernel
theorem dL_law_944 : decode bL_law 944 = .ok (.iadd, 1) := by decide +kernel
theorem dL_law_945 : decode bL_law 945 = .ok (.iaload, 1) := by decide +kernel
theorem dL_law_946 : decode bL_law 946 = .ok (.ifCond .eq 7, 3) := by decide +kernel
theorem dL_law_949 : decode bL_law 949 = .ok (.iconst 1, 1) := by decide +kernel
theorem dL_law_950 : decode bL_law 950 = .ok (.goto 4, 3) := by decide +kernel
theorem dL_law_953 : decode bL_law 953 = .ok (.iconst 0, 1) := by decide +kernel
theorem dL_law_954 : decode bL_law 954 = .ok (.aload_n 0, 1) := by decide +kernel
theorem dL_law_955 : decode bL_law 955 = .ok (.iload 4, 2) := by decide +kernel
theorem dL_law_957 : decode bL_law 957 = .ok (.iconst 2, 1) := by decide +kernel
theorem dL_law_958 : decode bL_law 958 = .ok (.iadd, 1) := by decide +kernel
theorem dL_law_959 : decode bL_law 959 = .ok (.iaload, 1) := by decide +kernel
theorem dL_law_960 : decode bL_law 960 = .ok (.aload_n 0, 1) := by decide +kernel
theorem dL_law_961 : decode bL_law 961 = .ok (.iload 4, 2) := by decide +kernel
theorem dL_law_963 : decode bL_law 963 = .ok (.iconst 3, 1) := by decide +kernel
theorem dL_law_964 : decode bL_law 964 = .ok (.iadd, 1) := by decide +kernel
theorem dL_law_965 : decode bL_law 965 = .ok (.iaload, 1) := by decide +kernel
theorem dL_law_966 : decode bL_law 966 = .ok (.aload_n 3, 1) := by decide +kernel
theorem dL_law_967 : decode bL_law 967 = .ok (.invokestatic 127, 3) := by decide +kernel
theorem dL_law_970 : decode bL_law 970 = .ok (.istore 5, 2) := by decide +kernel
theorem dL_law_972 : decode bL_law 972 = .ok (.aload_n 2, 1) := by decide +kernel
theorem dL_law_973 : decode bL_law 973 = .ok (.aload_n 0, 1) := by decide +kernel
theorem dL_law_974 : decode bL_law 974 = .ok (.iload 4, 2) := by decide +kernel
theorem dL_law_976 : decode bL_law 976 = .ok (.iconst 1, 1) := by decide +kernel
theorem dL_law_977 : decode bL_law 977 = .ok (.iadd, 1) := by decide +kernel
theorem dL_law_978 : decode bL_law 978 = .ok (.iaload, 1) := by decide +kernel
theorem dL_law_979 : decode bL_law 979 = .ok (.ifCond .eq 7, 3) := by decide +kernel
theorem dL_law_982 : decode bL_law 982 = .ok (.iconst 1, 1) := by decide +kernel
theorem dL_law_983 : decode bL_law 983 = .ok (.goto 4, 3) := by decide +kernel
theorem dL_law_986 : decode bL_law 986 = .ok (.iconst 0, 1) := by decide +kernel
theorem dL_law_987 : decode bL_law 987 = .ok (.aload_n 0, 1) := by decide +kernel
theorem dL_law_988 : decode bL_law 988 = .ok (.iload 4, 2) := by decide +kernel
theorem dL_law_990 : decode bL_law 990 = .ok (.iconst 2, 1) := by decide +kernel
theorem dL_law_991 : decode bL_law 991 = .ok (.iadd, 1) := by decide +kernel
theorem dL_law_992 : decode bL_law 992 = .ok (.iaload, 1) := by decide +kernel
theorem dL_law_993 : decode bL_law 993 = .ok (.aload_n 0, 1) := by decide +kernel
theorem dL_law_994 : decode bL_law 994 = .ok (.iload 4, 2) := by decide +kernel
theorem dL_law_996 : decode bL_law 996 = .ok (.iconst 3, 1) := by decide +kernel
theorem dL_law_997 : decode bL_law 997 = .ok (.iadd, 1) := by decide +kernel
theorem dL_law_998 : decode bL_law 998 = .ok (.iaload, 1) := by decide +kernel
theorem dL_law_999 : decode bL_law 999 = .ok (.invokevirtual 130, 3) := by decide +kernel
theorem dL_law_1002 : decode bL_law 1002 = .ok (.istore 6, 2) := by decide +kernel
theorem dL_law_1004 : decode bL_law 1004 = .ok (.aload_n 2, 1) := by decide +kernel
theorem dL_law_1005 : decode bL_law 1005 = .ok (.invokevirtual 83, 3) := by decide +kernel
theorem dL_law_1008 : decode bL_law 1008 = .ok (.iload 5, 2) := by decide +kernel
theorem dL_law_1010 : decode bL_law 1010 = .ok (.if_icmp .eq 5, 3) := by decide +kernel
theorem dL_law_1013 : decode bL_law 1013 = .ok (.iconst 0, 1) := by decide +kernel
theorem dL_law_1014 : decode bL_law 1014 = .ok (.ireturn, 1) := by decide +kernel
theorem dL_law_1015 : decode bL_law 1015 = .ok (.iload 5, 2) := by decide +kernel
theorem dL_law_1017 : decode bL_law 1017 = .ok (.ifCond .ne 15, 3) := by decide +kernel
theorem dL_law_1020 : decode bL_law 1020 = .ok (.aload_n 3, 1) := by decide +kernel
theorem dL_law_1021 : decode bL_law 1021 = .ok (.iconst 0, 1) := by decide +kernel
theorem dL_law_1022 : decode bL_law 1022 = .ok (.laload, 1) := by decide +kernel
theorem dL_law_1023 : decode bL_law 1023 = .ok (.iload 6, 2) := by decide +kernel
theorem dL_law_1025 : decode bL_law 1025 = .ok (.i2l, 1) := by decide +kernel
theorem dL_law_1026 : decode bL_law 1026 = .ok (.lcmp, 1) := by decide +kernel
theorem dL_law_1027 : decode bL_law 1027 = .ok (.ifCond .eq 5, 3) := by decide +kernel
theorem dL_law_1030 : decode bL_law 1030 = .ok (.iconst 0, 1) := by decide +kernel
theorem dL_law_1031 : decode bL_law 1031 = .ok (.ireturn, 1) := by decide +kernel
theorem dL_law_1032 : decode bL_law 1032 = .ok (.goto 242, 3) := by decide +kernel
theorem dL_law_1035 : decode bL_law 1035 = .ok (.aload_n 1, 1) := by decide +kernel
theorem dL_law_1036 : decode bL_law 1036 = .ok (.aload_n 0, 1) := by decide +kernel
theorem dL_law_1037 : decode bL_law 1037 = .ok (.iload 4, 2) := by decide +kernel
theorem dL_law_1039 : decode bL_law 1039 = .ok (.iconst 1, 1) := by decide +kernel
theorem dL_law_1040 : decode bL_law 1040 = .ok (.iadd, 1) := by decide +kernel
theorem dL_law_1041 : decode bL_law 1041 = .ok (.iaload, 1) := by decide +kernel
theorem dL_law_1042 : decode bL_law 1042 = .ok (.ifCond .eq 7, 3) := by decide +kernel
theorem dL_law_1045 : decode bL_law 1045 = .ok (.iconst 1, 1) := by decide +kernel
theorem dL_law_1046 : decode bL_law 1046 = .ok (.goto 4, 3) := by decide +kernel
theorem dL_law_1049 : decode bL_law 1049 = .ok (.iconst 0, 1) := by decide +kernel
theorem dL_law_1050 : decode bL_law 1050 = .ok (.aload_n 0, 1) := by decide +kernel
theorem dL_law_1051 : decode bL_law 1051 = .ok (.iload 4, 2) := by decide +kernel
theorem dL_law_1053 : decode bL_law 1053 = .ok (.iconst 2, 1) := by decide +kernel
theorem dL_law_1054 : decode bL_law 1054 = .ok (.iadd, 1) := by decide +kernel
theorem dL_law_1055 : decode bL_law 1055 = .ok (.iaload, 1) := by decide +kernel
theorem dL_law_1056 : decode bL_law 1056 = .ok (.aload_n 0, 1) := by decide +kernel
theorem dL_law_1057 : decode bL_law 1057 = .ok (.iload 4, 2) := by decide +kernel
theorem dL_law_1059 : decode bL_law 1059 = .ok (.iconst 3, 1) := by decide +kernel
theorem dL_law_1060 : decode bL_law 1060 = .ok (.iadd, 1) := by decide +kernel
theorem dL_law_1061 : decode bL_law 1061 = .ok (.iaload, 1) := by decide +kernel
theorem dL_law_1062 : decode bL_law 1062 = .ok (.aload_n 3, 1) := by decide +kernel
theorem dL_law_1063 : decode bL_law 1063 = .ok (.invokestatic 131, 3) := by decide +kernel
theorem dL_law_1066 : decode bL_law 1066 = .ok (.istore 5, 2) := by decide +kernel
theorem dL_law_1068 : decode bL_law 1068 = .ok (.aload_n 2, 1) := by decide +kernel
theorem dL_law_1069 : decode bL_law 1069 = .ok (.aload_n 0, 1) := by decide +kernel
theorem dL_law_1070 : decode bL_law 1070 = .ok (.iload 4, 2) := by decide +kernel
theorem dL_law_1072 : decode bL_law 1072 = .ok (.iconst 1, 1) := by decide +kernel
theorem dL_law_1073 : decode bL_law 1073 = .ok (.iadd, 1) := by decide +kernel
theorem dL_law_1074 : decode bL_law 1074 = .ok (.iaload, 1) := by decide +kernel
theorem dL_law_1075 : decode bL_law 1075 = .ok (.ifCond .eq 7, 3) := by decide +kernel
theorem dL_law_1078 : decode bL_law 1078 = .ok (.iconst 1, 1) := by decide +kernel
theorem dL_law_1079 : decode bL_law 1079 = .ok (.goto 4, 3) := by decide +kernel
theorem dL_law_1082 : decode bL_law 1082 = .ok (.iconst 0, 1) := by decide +kernel
theorem dL_law_1083 : decode bL_law 1083 = .ok (.aload_n 0, 1) := by decide +kernel
theorem dL_law_1084 : decode bL_law 1084 = .ok (.iload 4, 2) := by decide +kernel
theorem dL_law_1086 : decode bL_law 1086 = .ok (.iconst 2, 1) := by decide +kernel
theorem dL_law_1087 : decode bL_law 1087 = .ok (.iadd, 1) := by decide +kernel
theorem dL_law_1088 : decode bL_law 1088 = .ok (.iaload, 1) := by decide +kernel
theorem dL_law_1089 : decode bL_law 1089 = .ok (.aload_n 0, 1) := by decide +kernel
theorem dL_law_1090 : decode bL_law 1090 = .ok (.iload 4, 2) := by decide +kernel
theorem dL_law_1092 : decode bL_law 1092 = .ok (.iconst 3, 1) := by decide +kernel
theorem dL_law_1093 : decode bL_law 1093 = .ok (.iadd, 1) := by decide +kernel
theorem dL_law_1094 : decode bL_law 1094 = .ok (.iaload, 1) := by decide +kernel
theorem dL_law_1095 : decode bL_law 1095 = .ok (.invokevirtual 133, 3) := by decide +kernel
theorem dL_law_1098 : decode bL_law 1098 = .ok (.istore 6, 2) := by decide +kernel
theorem dL_law_1100 : decode bL_law 1100 = .ok (.aload_n 2, 1) := by decide +kernel
theorem dL_law_1101 : decode bL_law 1101 = .ok (.invokevirtual 83, 3) := by decide +kernel
theorem dL_law_1104 : decode bL_law 1104 = .ok (.iload 5, 2) := by decide +kernel
theorem dL_law_1106 : decode bL_law 1106 = .ok (.if_icmp .eq 5, 3) := by decide +kernel
theorem dL_law_1109 : decode bL_law 1109 = .ok (.iconst 0, 1) := by decide +kernel
theorem dL_law_1110 : decode bL_law 1110 = .ok (.ireturn, 1) := by decide +kernel
theorem dL_law_1111 : decode bL_law 1111 = .ok (.iload 5, 2) := by decide +kernel
theorem dL_law_1113 : decode bL_law 1113 = .ok (.ifCond .ne 22, 3) := by decide +kernel
theorem dL_law_1116 : decode bL_law 1116 = .ok (.aload_n 3, 1) := by decide +kernel
theorem dL_law_1117 : decode bL_law 1117 = .ok (.iconst 0, 1) := by decide +kernel
theorem dL_law_1118 : decode bL_law 1118 = .ok (.laload, 1) := by decide +kernel
theorem dL_law_1119 : decode bL_law 1119 = .ok (.iload 6, 2) := by decide +kernel
theorem dL_law_1121 : decode bL_law 1121 = .ok (.ifCond .eq 7, 3) := by decide +kernel
theorem dL_law_1124 : decode bL_law 1124 = .ok (.lconst 1, 1) := by decide +kernel
theorem dL_law_1125 : decode bL_law 1125 = .ok (.goto 4, 3) := by decide +kernel
theorem dL_law_1128 : decode bL_law 1128 = .ok (.lconst 0, 1) := by decide +kernel
theorem dL_law_1129 : decode bL_law 1129 = .ok (.lcmp, 1) := by decide +kernel
theorem dL_law_1130 : decode bL_law 1130 = .ok (.ifCond .eq 5, 3) := by decide +kernel
theorem dL_law_1133 : decode bL_law 1133 = .ok (.iconst 0, 1) := by decide +kernel
theorem dL_law_1134 : decode bL_law 1134 = .ok (.ireturn, 1) := by decide +kernel
theorem dL_law_1135 : decode bL_law 1135 = .ok (.goto 139, 3) := by decide +kernel
theorem dL_law_1138 : decode bL_law 1138 = .ok (.aload_n 1, 1) := by decide +kernel
theorem dL_law_1139 : decode bL_law 1139 = .ok (.aload_n 0, 1) := by decide +kernel
theorem dL_law_1140 : decode bL_law 1140 = .ok (.iload 4, 2) := by decide +kernel
theorem dL_law_1142 : decode bL_law 1142 = .ok (.iconst 1, 1) := by decide +kernel
theorem dL_law_1143 : decode bL_law 1143 = .ok (.iadd, 1) := by decide +kernel
theorem dL_law_1144 : decode bL_law 1144 = .ok (.iaload, 1) := by decide +kernel
theorem dL_law_1145 : decode bL_law 1145 = .ok (.aload_n 0, 1) := by decide +kernel
theorem dL_law_1146 : decode bL_law 1146 = .ok (.iload 4, 2) := by decide +kernel
theorem dL_law_1148 : decode bL_law 1148 = .ok (.iconst 2, 1) := by decide +kernel
theorem dL_law_1149 : decode bL_law 1149 = .ok (.iadd, 1) := by decide +kernel
theorem dL_law_1150 : decode bL_law 1150 = .ok (.iaload, 1) := by decide +kernel
theorem dL_law_1151 : decode bL_law 1151 = .ok (.aload_n 3, 1) := by decide +kernel
theorem dL_law_1152 : decode bL_law 1152 = .ok (.invokestatic 134, 3) := by decide +kernel
theorem dL_law_1155 : decode bL_law 1155 = .ok (.istore 5, 2) := by decide +kernel
theorem dL_law_1157 : decode bL_law 1157 = .ok (.aload_n 2, 1) := by decide +kernel
theorem dL_law_1158 : decode bL_law 1158 = .ok (.aload_n 0, 1) := by decide +kernel
theorem dL_law_1159 : decode bL_law 1159 = .ok (.iload 4, 2) := by decide +kernel
theorem dL_law_1161 : decode bL_law 1161 = .ok (.iconst 1, 1) := by decide +kernel
theorem dL_law_1162 : decode bL_law 1162 = .ok (.iadd, 1) := by decide +kernel
theorem dL_law_1163 : decode bL_law 1163 = .ok (.iaload, 1) := by decide +kernel
theorem dL_law_1164 : decode bL_law 1164 = .ok (.aload_n 0, 1) := by decide +kernel
theorem dL_law_1165 : decode bL_law 1165 = .ok (.iload 4, 2) := by decide +kernel
theorem dL_law_1167 : decode bL_law 1167 = .ok (.iconst 2, 1) := by decide +kernel
theorem dL_law_1168 : decode bL_law 1168 = .ok (.iadd, 1) := by decide +kernel
theorem dL_law_1169 : decode bL_law 1169 = .ok (.iaload, 1) := by decide +kernel
theorem dL_law_1170 : decode bL_law 1170 = .ok (.invokevirtual 136, 3) := by decide +kernel
theorem dL_law_1173 : decode bL_law 1173 = .ok (.istore 6, 2) := by decide +kernel
theorem dL_law_1175 : decode bL_law 1175 = .ok (.aload_n 2, 1) := by decide +kernel
theorem dL_law_1176 : decode bL_law 1176 = .ok (.invokevirtual 83, 3) := by decide +kernel
theorem dL_law_1179 : decode bL_law 1179 = .ok (.iload 5, 2) := by decide +kernel
theorem dL_law_1181 : decode bL_law 1181 = .ok (.if_icmp .eq 5, 3) := by decide +kernel
theorem dL_law_1184 : decode bL_law 1184 = .ok (.iconst 0, 1) := by decide +kernel
theorem dL_law_1185 : decode bL_law 1185 = .ok (.ireturn, 1) := by decide +kernel
theorem dL_law_1186 : decode bL_law 1186 = .ok (.iload 5, 2) := by decide +kernel
theorem dL_law_1188 : decode bL_law 1188 = .ok (.ifCond .ne 15, 3) := by decide +kernel
theorem dL_law_1191 : decode bL_law 1191 = .ok (.aload_n 3, 1) := by decide +kernel
theorem dL_law_1192 : decode bL_law 1192 = .ok (.iconst 0, 1) := by decide +kernel
theorem dL_law_1193 : decode bL_law 1193 = .ok (.laload, 1) := by decide +kernel
theorem dL_law_1194 : decode bL_law 1194 = .ok (.iload 6, 2) := by decide +kernel
theorem dL_law_1196 : decode bL_law 1196 = .ok (.i2l, 1) := by decide +kernel
theorem dL_law_1197 : decode bL_law 1197 = .ok (.lcmp, 1) := by decide +kernel
theorem dL_law_1198 : decode bL_law 1198 = .ok (.ifCond .eq 5, 3) := by decide +kernel
theorem dL_law_1201 : decode bL_law 1201 = .ok (.iconst 0, 1) := by decide +kernel
theorem dL_law_1202 : decode bL_law 1202 = .ok (.ireturn, 1) := by decide +kernel
theorem dL_law_1203 : decode bL_law 1203 = .ok (.goto 71, 3) := by decide +kernel
theorem dL_law_1206 : decode bL_law 1206 = .ok (.aload_n 1, 1) := by decide +kernel
theorem dL_law_1207 : decode bL_law 1207 = .ok (.aload_n 0, 1) := by decide +kernel
theorem dL_law_1208 : decode bL_law 1208 = .ok (.iload 4, 2) := by decide +kernel
theorem dL_law_1210 : decode bL_law 1210 = .ok (.iconst 1, 1) := by decide +kernel
theorem dL_law_1211 : decode bL_law 1211 = .ok (.iadd, 1) := by decide +kernel
theorem dL_law_1212 : decode bL_law 1212 = .ok (.iaload, 1) := by decide +kernel
theorem dL_law_1213 : decode bL_law 1213 = .ok (.aload_n 0, 1) := by decide +kernel
theorem dL_law_1214 : decode bL_law 1214 = .ok (.iload 4, 2) := by decide +kernel
theorem dL_law_1216 : decode bL_law 1216 = .ok (.iconst 2, 1) := by decide +kernel
theorem dL_law_1217 : decode bL_law 1217 = .ok (.iadd, 1) := by decide +kernel
theorem dL_law_1218 : decode bL_law 1218 = .ok (.iaload, 1) := by decide +kernel
theorem dL_law_1219 : decode bL_law 1219 = .ok (.aload_n 3, 1) := by decide +kernel
theorem dL_law_1220 : decode bL_law 1220 = .ok (.invokestatic 137, 3) := by decide +kernel
theorem dL_law_1223 : decode bL_law 1223 = .ok (.istore 5, 2) := by decide +kernel
theorem dL_law_1225 : decode bL_law 1225 = .ok (.aload_n 2, 1) := by decide +kernel
theorem dL_law_1226 : decode bL_law 1226 = .ok (.aload_n 0, 1) := by decide +kernel
theorem dL_law_1227 : decode bL_law 1227 = .ok (.iload 4, 2) := by decide +kernel
theorem dL_law_1229 : decode bL_law 1229 = .ok (.iconst 1, 1) := by decide +kernel
theorem dL_law_1230 : decode bL_law 1230 = .ok (.iadd, 1) := by decide +kernel
theorem dL_law_1231 : decode bL_law 1231 = .ok (.iaload, 1) := by decide +kernel
theorem dL_law_1232 : decode bL_law 1232 = .ok (.aload_n 0, 1) := by decide +kernel
theorem dL_law_1233 : decode bL_law 1233 = .ok (.iload 4, 2) := by decide +kernel
theorem dL_law_1235 : decode bL_law 1235 = .ok (.iconst 2, 1) := by decide +kernel
theorem dL_law_1236 : decode bL_law 1236 = .ok (.iadd, 1) := by decide +kernel
theorem dL_law_1237 : decode bL_law 1237 = .ok (.iaload, 1) := by decide +kernel
theorem dL_law_1238 : decode bL_law 1238 = .ok (.invokevirtual 139, 3) := by decide +kernel
theorem dL_law_1241 : decode bL_law 1241 = .ok (.istore 6, 2) := by decide +kernel
theorem dL_law_1243 : decode bL_law 1243 = .ok (.aload_n 2, 1) := by decide +kernel
theorem dL_law_1244 : decode bL_law 1244 = .ok (.invokevirtual 83, 3) := by decide +kernel
theorem dL_law_1247 : decode bL_law 1247 = .ok (.iload 5, 2) := by decide +kernel
theorem dL_law_1249 : decode bL_law 1249 = .ok (.if_icmp .eq 5, 3) := by decide +kernel
theorem dL_law_1252 : decode bL_law 1252 = .ok (.iconst 0, 1) := by decide +kernel
theorem dL_law_1253 : decode bL_law 1253 = .ok (.ireturn, 1) := by decide +kernel
theorem dL_law_1254 : decode bL_law 1254 = .ok (.iload 5, 2) := by decide +kernel
theorem dL_law_1256 : decode bL_law 1256 = .ok (.ifCond .ne 15, 3) := by decide +kernel
theorem dL_law_1259 : decode bL_law 1259 = .ok (.aload_n 3, 1) := by decide +kernel
theorem dL_law_1260 : decode bL_law 1260 = .ok (.iconst 0, 1) := by decide +kernel
theorem dL_law_1261 : decode bL_law 1261 = .ok (.laload, 1) := by decide +kernel
theorem dL_law_1262 : decode bL_law 1262 = .ok (.iload 6, 2) := by decide +kernel
theorem dL_law_1264 : decode bL_law 1264 = .ok (.i2l, 1) := by decide +kernel
theorem dL_law_1265 : decode bL_law 1265 = .ok (.lcmp, 1) := by decide +kernel
theorem dL_law_1266 : decode bL_law 1266 = .ok (.ifCond .eq 5, 3) := by decide +kernel
theorem dL_law_1269 : decode bL_law 1269 = .ok (.iconst 0, 1) := by decide +kernel
theorem dL_law_1270 : decode bL_law 1270 = .ok (.ireturn, 1) := by decide +kernel
theorem dL_law_1271 : decode bL_law 1271 = .ok (.goto 3, 3) := by decide +kernel
theorem dL_law_1274 : decode bL_law 1274 = .ok (.iinc 4 6, 3) := by decide +kernel
theorem dL_law_1277 : decode bL_law 1277 = .ok (.goto (-1254), 3) := by decide +kernel
theorem dL_law_1280 : decode bL_law 1280 = .ok (.iconst 1, 1) := by decide +kernel
theorem dL_law_1281 : decode bL_law 1281 = .ok (.ireturn, 1) := by decide +kernel
