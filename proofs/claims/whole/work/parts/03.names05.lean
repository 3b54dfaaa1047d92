theorem dX4_init_710 : decode cX4_init 710 = .ok (.bipush 19, 2) := by decide +kernel
theorem dX4_init_712 : decode cX4_init 712 = .ok (.bipush 23, 2) := by decide +kernel
theorem dX4_init_714 : decode cX4_init 714 = .ok (.bipush 27, 2) := by decide +kernel
theorem dX4_init_716 : decode cX4_init 716 = .ok (.bipush 31, 2) := by decide +kernel
theorem dX4_init_718 : decode cX4_init 718 = .ok (.bipush 29, 2) := by decide +kernel
theorem dX4_init_720 : decode cX4_init 720 = .ok (.invokevirtual 31, 3) := by decide +kernel
theorem dX4_init_723 : decode cX4_init 723 = .ok (.aload_n 0, 1) := by decide +kernel
theorem dX4_init_724 : decode cX4_init 724 = .ok (.bipush 40, 2) := by decide +kernel
theorem dX4_init_726 : decode cX4_init 726 = .ok (.bipush 18, 2) := by decide +kernel
theorem dX4_init_728 : decode cX4_init 728 = .ok (.bipush 22, 2) := by decide +kernel
theorem dX4_init_730 : decode cX4_init 730 = .ok (.bipush 26, 2) := by decide +kernel
theorem dX4_init_732 : decode cX4_init 732 = .ok (.bipush 30, 2) := by decide +kernel
theorem dX4_init_734 : decode cX4_init 734 = .ok (.bipush 29, 2) := by decide +kernel
theorem dX4_init_736 : decode cX4_init 736 = .ok (.invokevirtual 31, 3) := by decide +kernel
theorem dX4_init_739 : decode cX4_init 739 = .ok (.aload_n 0, 1) := by decide +kernel
theorem dX4_init_740 : decode cX4_init 740 = .ok (.bipush 41, 2) := by decide +kernel
theorem dX4_init_742 : decode cX4_init 742 = .ok (.bipush 17, 2) := by decide +kernel
theorem dX4_init_744 : decode cX4_init 744 = .ok (.bipush 21, 2) := by decide +kernel
theorem dX4_init_746 : decode cX4_init 746 = .ok (.bipush 25, 2) := by decide +kernel
theorem dX4_init_748 : decode cX4_init 748 = .ok (.bipush 28, 2) := by decide +kernel
theorem dX4_init_750 : decode cX4_init 750 = .ok (.bipush 30, 2) := by decide +kernel
theorem dX4_init_752 : decode cX4_init 752 = .ok (.invokevirtual 31, 3) := by decide +kernel
theorem dX4_init_755 : decode cX4_init 755 = .ok (.aload_n 0, 1) := by decide +kernel
theorem dX4_init_756 : decode cX4_init 756 = .ok (.bipush 42, 2) := by decide +kernel
theorem dX4_init_758 : decode cX4_init 758 = .ok (.bipush 16, 2) := by decide +kernel
theorem dX4_init_760 : decode cX4_init 760 = .ok (.bipush 20, 2) := by decide +kernel
theorem dX4_init_762 : decode cX4_init 762 = .ok (.bipush 23, 2) := by decide +kernel
theorem dX4_init_764 : decode cX4_init 764 = .ok (.bipush 27, 2) := by decide +kernel
theorem dX4_init_766 : decode cX4_init 766 = .ok (.bipush 30, 2) := by decide +kernel
theorem dX4_init_768 : decode cX4_init 768 = .ok (.invokevirtual 31, 3) := by decide +kernel
theorem dX4_init_771 : decode cX4_init 771 = .ok (.aload_n 0, 1) := by decide +kernel
theorem dX4_init_772 : decode cX4_init 772 = .ok (.bipush 43, 2) := by decide +kernel
theorem dX4_init_774 : decode cX4_init 774 = .ok (.bipush 15, 2) := by decide +kernel
theorem dX4_init_776 : decode cX4_init 776 = .ok (.bipush 19, 2) := by decide +kernel
theorem dX4_init_778 : decode cX4_init 778 = .ok (.bipush 22, 2) := by decide +kernel
theorem dX4_init_780 : decode cX4_init 780 = .ok (.bipush 25, 2) := by decide +kernel
theorem dX4_init_782 : decode cX4_init 782 = .ok (.bipush 30, 2) := by decide +kernel
theorem dX4_init_784 : decode cX4_init 784 = .ok (.invokevirtual 31, 3) := by decide +kernel
theorem dX4_init_787 : decode cX4_init 787 = .ok (.aload_n 0, 1) := by decide +kernel
theorem dX4_init_788 : decode cX4_init 788 = .ok (.bipush 44, 2) := by decide +kernel
theorem dX4_init_790 : decode cX4_init 790 = .ok (.bipush 14, 2) := by decide +kernel
theorem dX4_init_792 : decode cX4_init 792 = .ok (.bipush 18, 2) := by decide +kernel
theorem dX4_init_794 : decode cX4_init 794 = .ok (.bipush 21, 2) := by decide +kernel
theorem dX4_init_796 : decode cX4_init 796 = .ok (.bipush 24, 2) := by decide +kernel
theorem dX4_init_798 : decode cX4_init 798 = .ok (.bipush 31, 2) := by decide +kernel
theorem dX4_init_800 : decode cX4_init 800 = .ok (.invokevirtual 31, 3) := by decide +kernel
theorem dX4_init_803 : decode cX4_init 803 = .ok (.aload_n 0, 1) := by decide +kernel
theorem dX4_init_804 : decode cX4_init 804 = .ok (.bipush 45, 2) := by decide +kernel
theorem dX4_init_806 : decode cX4_init 806 = .ok (.bipush 14, 2) := by decide +kernel
theorem dX4_init_808 : decode cX4_init 808 = .ok (.bipush 17, 2) := by decide +kernel
theorem dX4_init_810 : decode cX4_init 810 = .ok (.bipush 20, 2) := by decide +kernel
theorem dX4_init_812 : decode cX4_init 812 = .ok (.bipush 23, 2) := by decide +kernel
theorem dX4_init_814 : decode cX4_init 814 = .ok (.bipush 32, 2) := by decide +kernel
theorem dX4_init_816 : decode cX4_init 816 = .ok (.invokevirtual 31, 3) := by decide +kernel
theorem dX4_init_819 : decode cX4_init 819 = .ok (.aload_n 0, 1) := by decide +kernel
theorem dX4_init_820 : decode cX4_init 820 = .ok (.bipush 46, 2) := by decide +kernel
theorem dX4_init_822 : decode cX4_init 822 = .ok (.bipush 13, 2) := by decide +kernel
theorem dX4_init_824 : decode cX4_init 824 = .ok (.bipush 16, 2) := by decide +kernel
theorem dX4_init_826 : decode cX4_init 826 = .ok (.bipush 19, 2) := by decide +kernel
theorem dX4_init_828 : decode cX4_init 828 = .ok (.bipush 22, 2) := by decide +kernel
theorem dX4_init_830 : decode cX4_init 830 = .ok (.bipush 32, 2) := by decide +kernel
theorem dX4_init_832 : decode cX4_init 832 = .ok (.invokevirtual 31, 3) := by decide +kernel
theorem dX4_init_835 : decode cX4_init 835 = .ok (.aload_n 0, 1) := by decide +kernel
theorem dX4_init_836 : decode cX4_init 836 = .ok (.bipush 47, 2) := by decide +kernel
theorem dX4_init_838 : decode cX4_init 838 = .ok (.bipush 12, 2) := by decide +kernel
theorem dX4_init_840 : decode cX4_init 840 = .ok (.bipush 15, 2) := by decide +kernel
theorem dX4_init_842 : decode cX4_init 842 = .ok (.bipush 18, 2) := by decide +kernel
theorem dX4_init_844 : decode cX4_init 844 = .ok (.bipush 21, 2) := by decide +kernel
theorem dX4_init_846 : decode cX4_init 846 = .ok (.bipush 33, 2) := by decide +kernel
theorem dX4_init_848 : decode cX4_init 848 = .ok (.invokevirtual 31, 3) := by decide +kernel
theorem dX4_init_851 : decode cX4_init 851 = .ok (.aload_n 0, 1) := by decide +kernel
theorem dX4_init_852 : decode cX4_init 852 = .ok (.bipush 48, 2) := by decide +kernel
theorem dX4_init_854 : decode cX4_init 854 = .ok (.bipush 12, 2) := by decide +kernel
theorem dX4_init_856 : decode cX4_init 856 = .ok (.bipush 14, 2) := by decide +kernel
theorem dX4_init_858 : decode cX4_init 858 = .ok (.bipush 17, 2) := by decide +kernel
theorem dX4_init_860 : decode cX4_init 860 = .ok (.bipush 20, 2) := by decide +kernel
theorem dX4_init_862 : decode cX4_init 862 = .ok (.bipush 33, 2) := by decide +kernel
theorem dX4_init_864 : decode cX4_init 864 = .ok (.invokevirtual 31, 3) := by decide +kernel
theorem dX4_init_867 : decode cX4_init 867 = .ok (.aload_n 0, 1) := by decide +kernel
theorem dX4_init_868 : decode cX4_init 868 = .ok (.bipush 49, 2) := by decide +kernel
theorem dX4_init_870 : decode cX4_init 870 = .ok (.bipush 11, 2) := by decide +kernel
theorem dX4_init_872 : decode cX4_init 872 = .ok (.bipush 14, 2) := by decide +kernel
theorem dX4_init_874 : decode cX4_init 874 = .ok (.bipush 16, 2) := by decide +kernel
theorem dX4_init_876 : decode cX4_init 876 = .ok (.bipush 19, 2) := by decide +kernel
theorem dX4_init_878 : decode cX4_init 878 = .ok (.bipush 33, 2) := by decide +kernel
theorem dX4_init_880 : decode cX4_init 880 = .ok (.invokevirtual 31, 3) := by decide +kernel
theorem dX4_init_883 : decode cX4_init 883 = .ok (.aload_n 0, 1) := by decide +kernel
theorem dX4_init_884 : decode cX4_init 884 = .ok (.bipush 50, 2) := by decide +kernel
theorem dX4_init_886 : decode cX4_init 886 = .ok (.bipush 11, 2) := by decide +kernel
theorem dX4_init_888 : decode cX4_init 888 = .ok (.bipush 13, 2) := by decide +kernel
theorem dX4_init_890 : decode cX4_init 890 = .ok (.bipush 15, 2) := by decide +kernel
theorem dX4_init_892 : decode cX4_init 892 = .ok (.bipush 18, 2) := by decide +kernel
theorem dX4_init_894 : decode cX4_init 894 = .ok (.bipush 34, 2) := by decide +kernel
theorem dX4_init_896 : decode cX4_init 896 = .ok (.invokevirtual 31, 3) := by decide +kernel
theorem dX4_init_899 : decode cX4_init 899 = .ok (.aload_n 0, 1) := by decide +kernel
theorem dX4_init_900 : decode cX4_init 900 = .ok (.bipush 51, 2) := by decide +kernel
theorem dX4_init_902 : decode cX4_init 902 = .ok (.bipush 10, 2) := by decide +kernel
theorem dX4_init_904 : decode cX4_init 904 = .ok (.bipush 12, 2) := by decide +kernel
theorem dX4_init_906 : decode cX4_init 906 = .ok (.bipush 15, 2) := by decide +kernel
theorem dX4_init_908 : decode cX4_init 908 = .ok (.bipush 17, 2) := by decide +kernel
theorem dX4_init_910 : decode cX4_init 910 = .ok (.bipush 34, 2) := by decide +kernel
theorem dX4_init_912 : decode cX4_init 912 = .ok (.invokevirtual 31, 3) := by decide +kernel
theorem dX4_init_915 : decode cX4_init 915 = .ok (.aload_n 0, 1) := by decide +kernel
theorem dX4_init_916 : decode cX4_init 916 = .ok (.bipush 52, 2) := by decide +kernel
theorem dX4_init_918 : decode cX4_init 918 = .ok (.bipush 10, 2) := by decide +kernel
theorem dX4_init_920 : decode cX4_init 920 = .ok (.bipush 12, 2) := by decide +kernel
theorem dX4_init_922 : decode cX4_init 922 = .ok (.bipush 14, 2) := by decide +kernel
theorem dX4_init_924 : decode cX4_init 924 = .ok (.bipush 16, 2) := by decide +kernel
theorem dX4_init_926 : decode cX4_init 926 = .ok (.bipush 35, 2) := by decide +kernel
theorem dX4_init_928 : decode cX4_init 928 = .ok (.invokevirtual 31, 3) := by decide +kernel
theorem dX4_init_931 : decode cX4_init 931 = .ok (.aload_n 0, 1) := by decide +kernel
theorem dX4_init_932 : decode cX4_init 932 = .ok (.bipush 53, 2) := by decide +kernel
theorem dX4_init_934 : decode cX4_init 934 = .ok (.bipush 9, 2) := by decide +kernel
theorem dX4_init_936 : decode cX4_init 936 = .ok (.bipush 11, 2) := by decide +kernel
theorem dX4_init_938 : decode cX4_init 938 = .ok (.bipush 13, 2) := by decide +kernel
theorem dX4_init_940 : decode cX4_init 940 = .ok (.bipush 15, 2) := by decide +kernel
theorem dX4_init_942 : decode cX4_init 942 = .ok (.bipush 35, 2) := by decide +kernel
theorem dX4_init_944 : decode cX4_init 944 = .ok (.invokevirtual 31, 3) := by decide +kernel
theorem dX4_init_947 : decode cX4_init 947 = .ok (.aload_n 0, 1) := by decide +kernel
theorem dX4_init_948 : decode cX4_init 948 = .ok (.bipush 54, 2) := by decide +kernel
theorem dX4_init_950 : decode cX4_init 950 = .ok (.bipush 9, 2) := by decide +kernel
theorem dX4_init_952 : decode cX4_init 952 = .ok (.bipush 11, 2) := by decide +kernel
theorem dX4_init_954 : decode cX4_init 954 = .ok (.bipush 12, 2) := by decide +kernel
theorem dX4_init_956 : decode cX4_init 956 = .ok (.bipush 14, 2) := by decide +kernel
theorem dX4_init_958 : decode cX4_init 958 = .ok (.bipush 35, 2) := by decide +kernel
theorem dX4_init_960 : decode cX4_init 960 = .ok (.invokevirtual 31, 3) := by decide +kernel
theorem dX4_init_963 : decode cX4_init 963 = .ok (.aload_n 0, 1) := by decide +kernel
theorem dX4_init_964 : decode cX4_init 964 = .ok (.bipush 55, 2) := by decide +kernel
theorem dX4_init_966 : decode cX4_init 966 = .ok (.bipush 8, 2) := by decide +kernel
theorem dX4_init_968 : decode cX4_init 968 = .ok (.bipush 10, 2) := by decide +kernel
theorem dX4_init_970 : decode cX4_init 970 = .ok (.bipush 12, 2) := by decide +kernel
theorem dX4_init_972 : decode cX4_init 972 = .ok (.bipush 14, 2) := by decide +kernel
theorem dX4_init_974 : decode cX4_init 974 = .ok (.bipush 36, 2) := by decide +kernel
theorem dX4_init_976 : decode cX4_init 976 = .ok (.invokevirtual 31, 3) := by decide +kernel
theorem dX4_init_979 : decode cX4_init 979 = .ok (.aload_n 0, 1) := by decide +kernel
theorem dX4_init_980 : decode cX4_init 980 = .ok (.bipush 56, 2) := by decide +kernel
theorem dX4_init_982 : decode cX4_init 982 = .ok (.bipush 8, 2) := by decide +kernel
theorem dX4_init_984 : decode cX4_init 984 = .ok (.bipush 9, 2) := by decide +kernel
theorem dX4_init_986 : decode cX4_init 986 = .ok (.bipush 11, 2) := by decide +kernel
theorem dX4_init_988 : decode cX4_init 988 = .ok (.bipush 13, 2) := by decide +kernel
theorem dX4_init_990 : decode cX4_init 990 = .ok (.bipush 36, 2) := by decide +kernel
theorem dX4_init_992 : decode cX4_init 992 = .ok (.invokevirtual 31, 3) := by decide +kernel
theorem dX4_init_995 : decode cX4_init 995 = .ok (.aload_n 0, 1) := by decide +kernel
theorem dX4_init_996 : decode cX4_init 996 = .ok (.bipush 57, 2) := by decide +kernel
theorem dX4_init_998 : decode cX4_init 998 = .ok (.bipush 7, 2) := by decide +kernel
theorem dX4_init_1000 : decode cX4_init 1000 = .ok (.bipush 9, 2) := by decide +kernel
theorem dX4_init_1002 : decode cX4_init 1002 = .ok (.bipush 11, 2) := by decide +kernel
theorem dX4_init_1004 : decode cX4_init 1004 = .ok (.bipush 12, 2) := by decide +kernel
theorem dX4_init_1006 : decode cX4_init 1006 = .ok (.bipush 36, 2) := by decide +kernel
theorem dX4_init_1008 : decode cX4_init 1008 = .ok (.invokevirtual 31, 3) := by decide +kernel
theorem dX4_init_1011 : decode cX4_init 1011 = .ok (.aload_n 0, 1) := by decide +kernel
theorem dX4_init_1012 : decode cX4_init 1012 = .ok (.bipush 58, 2) := by decide +kernel
theorem dX4_init_1014 : decode cX4_init 1014 = .ok (.bipush 7, 2) := by decide +kernel
theorem dX4_init_1016 : decode cX4_init 1016 = .ok (.bipush 9, 2) := by decide +kernel
theorem dX4_init_1018 : decode cX4_init 1018 = .ok (.bipush 10, 2) := by decide +kernel
theorem dX4_init_1020 : decode cX4_init 1020 = .ok (.bipush 12, 2) := by decide +kernel
theorem dX4_init_1022 : decode cX4_init 1022 = .ok (.bipush 37, 2) := by decide +kernel
theorem dX4_init_1024 : decode cX4_init 1024 = .ok (.invokevirtual 31, 3) := by decide +kernel
theorem dX4_init_1027 : decode cX4_init 1027 = .ok (.aload_n 0, 1) := by decide +kernel
theorem dX4_init_1028 : decode cX4_init 1028 = .ok (.bipush 59, 2) := by decide +kernel
theorem dX4_init_1030 : decode cX4_init 1030 = .ok (.bipush 7, 2) := by decide +kernel
theorem dX4_init_1032 : decode cX4_init 1032 = .ok (.bipush 8, 2) := by decide +kernel
theorem dX4_init_1034 : decode cX4_init 1034 = .ok (.bipush 10, 2) := by decide +kernel
theorem dX4_init_1036 : decode cX4_init 1036 = .ok (.bipush 11, 2) := by decide +kernel
theorem dX4_init_1038 : decode cX4_init 1038 = .ok (.bipush 37, 2) := by decide +kernel
theorem dX4_init_1040 : decode cX4_init 1040 = .ok (.invokevirtual 31, 3) := by decide +kernel
theorem dX4_init_1043 : decode cX4_init 1043 = .ok (.aload_n 0, 1) := by decide +kernel
theorem dX4_init_1044 : decode cX4_init 1044 = .ok (.bipush 60, 2) := by decide +kernel
theorem dX4_init_1046 : decode cX4_init 1046 = .ok (.bipush 6, 2) := by decide +kernel
theorem dX4_init_1048 : decode cX4_init 1048 = .ok (.bipush 8, 2) := by decide +kernel
theorem dX4_init_1050 : decode cX4_init 1050 = .ok (.bipush 9, 2) := by decide +kernel
theorem dX4_init_1052 : decode cX4_init 1052 = .ok (.bipush 11, 2) := by decide +kernel
theorem dX4_init_1054 : decode cX4_init 1054 = .ok (.bipush 37, 2) := by decide +kernel
theorem dX4_init_1056 : decode cX4_init 1056 = .ok (.invokevirtual 31, 3) := by decide +kernel
theorem dX4_init_1059 : decode cX4_init 1059 = .ok (.aload_n 0, 1) := by decide +kernel
theorem dX4_init_1060 : decode cX4_init 1060 = .ok (.bipush 61, 2) := by decide +kernel
theorem dX4_init_1062 : decode cX4_init 1062 = .ok (.bipush 6, 2) := by decide +kernel
theorem dX4_init_1064 : decode cX4_init 1064 = .ok (.bipush 7, 2) := by decide +kernel
theorem dX4_init_1066 : decode cX4_init 1066 = .ok (.bipush 9, 2) := by decide +kernel
theorem dX4_init_1068 : decode cX4_init 1068 = .ok (.bipush 10, 2) := by decide +kernel
theorem dX4_init_1070 : decode cX4_init 1070 = .ok (.bipush 38, 2) := by decide +kernel
theorem dX4_init_1072 : decode cX4_init 1072 = .ok (.invokevirtual 31, 3) := by decide +kernel
theorem dX4_init_1075 : decode cX4_init 1075 = .ok (.aload_n 0, 1) := by decide +kernel
theorem dX4_init_1076 : decode cX4_init 1076 = .ok (.bipush 62, 2) := by decide +kernel
theorem dX4_init_1078 : decode cX4_init 1078 = .ok (.bipush 6, 2) := by decide +kernel
theorem dX4_init_1080 : decode cX4_init 1080 = .ok (.bipush 7, 2) := by decide +kernel
theorem dX4_init_1082 : decode cX4_init 1082 = .ok (.bipush 8, 2) := by decide +kernel
theorem dX4_init_1084 : decode cX4_init 1084 = .ok (.bipush 9, 2) := by decide +kernel
theorem dX4_init_1086 : decode cX4_init 1086 = .ok (.bipush 38, 2) := by decide +kernel
theorem dX4_init_1088 : decode cX4_init 1088 = .ok (.invokevirtual 31, 3) := by decide +kernel
theorem dX4_init_1091 : decode cX4_init 1091 = .ok (.return_, 1) := by decide +kernel
theorem dX4_line_0 : decode cX4_line 0 = .ok (.aload_n 0, 1) := by decide +kernel
theorem dX4_line_1 : decode cX4_line 1 = .ok (.getfield 7, 3) := by decide +kernel
theorem dX4_line_4 : decode cX4_line 4 = .ok (.iconst 4, 1) := by decide +kernel
theorem dX4_line_5 : decode cX4_line 5 = .ok (.iload_n 1, 1) := by decide +kernel
theorem dX4_line_6 : decode cX4_line 6 = .ok (.imul, 1) := by decide +kernel
theorem dX4_line_7 : decode cX4_line 7 = .ok (.iload_n 2, 1) := by decide +kernel
theorem dX4_line_8 : decode cX4_line 8 = .ok (.iastore, 1) := by decide +kernel
theorem dX4_line_9 : decode cX4_line 9 = .ok (.aload_n 0, 1) := by decide +kernel
theorem dX4_line_10 : decode cX4_line 10 = .ok (.getfield 7, 3) := by decide +kernel
theorem dX4_line_13 : decode cX4_line 13 = .ok (.iconst 4, 1) := by decide +kernel
theorem dX4_line_14 : decode cX4_line 14 = .ok (.iload_n 1, 1) := by decide +kernel
theorem dX4_line_15 : decode cX4_line 15 = .ok (.imul, 1) := by decide +kernel
theorem dX4_line_16 : decode cX4_line 16 = .ok (.iconst 1, 1) := by decide +kernel
theorem dX4_line_17 : decode cX4_line 17 = .ok (.iadd, 1) := by decide +kernel
theorem dX4_line_18 : decode cX4_line 18 = .ok (.iload_n 3, 1) := by decide +kernel
theorem dX4_line_19 : decode cX4_line 19 = .ok (.iastore, 1) := by decide +kernel
theorem dX4_line_20 : decode cX4_line 20 = .ok (.aload_n 0, 1) := by decide +kernel
theorem dX4_line_21 : decode cX4_line 21 = .ok (.getfield 7, 3) := by decide +kernel
theorem dX4_line_24 : decode cX4_line 24 = .ok (.iconst 4, 1) := by decide +kernel
theorem dX4_line_25 : decode cX4_line 25 = .ok (.iload_n 1, 1) := by decide +kernel
theorem dX4_line_26 : decode cX4_line 26 = .ok (.imul, 1) := by decide +kernel
theorem dX4_line_27 : decode cX4_line 27 = .ok (.iconst 2, 1) := by decide +kernel
theorem dX4_line_28 : decode cX4_line 28 = .ok (.iadd, 1) := by decide +kernel
theorem dX4_line_29 : decode cX4_line 29 = .ok (.iload 4, 2) := by decide +kernel
theorem dX4_line_31 : decode cX4_line 31 = .ok (.iastore, 1) := by decide +kernel
theorem dX4_line_32 : decode cX4_line 32 = .ok (.aload_n 0, 1) := by decide +kernel
theorem dX4_line_33 : decode cX4_line 33 = .ok (.getfield 7, 3) := by decide +kernel
theorem dX4_line_36 : decode cX4_line 36 = .ok (.iconst 4, 1) := by decide +kernel
theorem dX4_line_37 : decode cX4_line 37 = .ok (.iload_n 1, 1) := by decide +kernel
theorem dX4_line_38 : decode cX4_line 38 = .ok (.imul, 1) := by decide +kernel
theorem dX4_line_39 : decode cX4_line 39 = .ok (.iconst 3, 1) := by decide +kernel
theorem dX4_line_40 : decode cX4_line 40 = .ok (.iadd, 1) := by decide +kernel
theorem dX4_line_41 : decode cX4_line 41 = .ok (.iload 5, 2) := by decide +kernel
theorem dX4_line_43 : decode cX4_line 43 = .ok (.iastore, 1) := by decide +kernel
theorem dX4_line_44 : decode cX4_line 44 = .ok (.aload_n 0, 1) := by decide +kernel
theorem dX4_line_45 : decode cX4_line 45 = .ok (.getfield 13, 3) := by decide +kernel
theorem dX4_line_48 : decode cX4_line 48 = .ok (.iload_n 1, 1) := by decide +kernel
theorem dX4_line_49 : decode cX4_line 49 = .ok (.iload 6, 2) := by decide +kernel
theorem dX4_line_51 : decode cX4_line 51 = .ok (.iastore, 1) := by decide +kernel
theorem dX4_line_52 : decode cX4_line 52 = .ok (.return_, 1) := by decide +kernel
theorem dX4_thrown_0 : decode cX4_thrown 0 = .ok (.aload_n 0, 1) := by decide +kernel
theorem dX4_thrown_1 : decode cX4_thrown 1 = .ok (.getfield 35, 3) := by decide +kernel
theorem dX4_thrown_4 : decode cX4_thrown 4 = .ok (.ireturn, 1) := by decide +kernel
theorem dX4_noContext_0 : decode cX4_noContext 0 = .ok (.iload_n 0, 1) := by decide +kernel
theorem dX4_noContext_1 : decode cX4_noContext 1 = .ok (.ifCond .lt 9, 3) := by decide +kernel
theorem dX4_noContext_4 : decode cX4_noContext 4 = .ok (.iload_n 0, 1) := by decide +kernel
theorem dX4_noContext_5 : decode cX4_noContext 5 = .ok (.bipush 31, 2) := by decide +kernel
theorem dX4_noContext_7 : decode cX4_noContext 7 = .ok (.if_icmp .le 7, 3) := by decide +kernel
theorem dX4_noContext_10 : decode cX4_noContext 10 = .ok (.iconst 1, 1) := by decide +kernel
theorem dX4_noContext_11 : decode cX4_noContext 11 = .ok (.goto 4, 3) := by decide +kernel
theorem dX4_noContext_14 : decode cX4_noContext 14 = .ok (.iconst 0, 1) := by decide +kernel
theorem dX4_noContext_15 : decode cX4_noContext 15 = .ok (.ireturn, 1) := by decide +kernel
theorem dX4_noBin_0 : decode cX4_noBin 0 = .ok (.iload_n 0, 1) := by decide +kernel
theorem dX4_noBin_1 : decode cX4_noBin 1 = .ok (.ifCond .eq 12, 3) := by decide +kernel
theorem dX4_noBin_4 : decode cX4_noBin 4 = .ok (.iload_n 0, 1) := by decide +kernel
theorem dX4_noBin_5 : decode cX4_noBin 5 = .ok (.iconst 1, 1) := by decide +kernel
theorem dX4_noBin_6 : decode cX4_noBin 6 = .ok (.if_icmp .eq 7, 3) := by decide +kernel
theorem dX4_noBin_9 : decode cX4_noBin 9 = .ok (.iconst 1, 1) := by decide +kernel
theorem dX4_noBin_10 : decode cX4_noBin 10 = .ok (.goto 4, 3) := by decide +kernel
theorem dX4_noBin_13 : decode cX4_noBin 13 = .ok (.iconst 0, 1) := by decide +kernel
theorem dX4_noBin_14 : decode cX4_noBin 14 = .ok (.ireturn, 1) := by decide +kernel
theorem dX4_learn_0 : decode cX4_learn 0 = .ok (.iload_n 2, 1) := by decide +kernel
theorem dX4_learn_1 : decode cX4_learn 1 = .ok (.ifCond .eq 34, 3) := by decide +kernel
theorem dX4_learn_4 : decode cX4_learn 4 = .ok (.aload_n 0, 1) := by decide +kernel
theorem dX4_learn_5 : decode cX4_learn 5 = .ok (.getfield 16, 3) := by decide +kernel
theorem dX4_learn_8 : decode cX4_learn 8 = .ok (.iload_n 1, 1) := by decide +kernel
theorem dX4_learn_9 : decode cX4_learn 9 = .ok (.aload_n 0, 1) := by decide +kernel
theorem dX4_learn_10 : decode cX4_learn 10 = .ok (.getfield 16, 3) := by decide +kernel
theorem dX4_learn_13 : decode cX4_learn 13 = .ok (.iload_n 1, 1) := by decide +kernel
theorem dX4_learn_14 : decode cX4_learn 14 = .ok (.iaload, 1) := by decide +kernel
theorem dX4_learn_15 : decode cX4_learn 15 = .ok (.bipush 62, 2) := by decide +kernel
theorem dX4_learn_17 : decode cX4_learn 17 = .ok (.if_icmp .ge 14, 3) := by decide +kernel
theorem dX4_learn_20 : decode cX4_learn 20 = .ok (.aload_n 0, 1) := by decide +kernel
theorem dX4_learn_21 : decode cX4_learn 21 = .ok (.getfield 16, 3) := by decide +kernel
theorem dX4_learn_24 : decode cX4_learn 24 = .ok (.iload_n 1, 1) := by decide +kernel
theorem dX4_learn_25 : decode cX4_learn 25 = .ok (.iaload, 1) := by decide +kernel
theorem dX4_learn_26 : decode cX4_learn 26 = .ok (.iconst 1, 1) := by decide +kernel
theorem dX4_learn_27 : decode cX4_learn 27 = .ok (.iadd, 1) := by decide +kernel
theorem dX4_learn_28 : decode cX4_learn 28 = .ok (.goto 5, 3) := by decide +kernel
theorem dX4_learn_31 : decode cX4_learn 31 = .ok (.bipush 62, 2) := by decide +kernel
theorem dX4_learn_33 : decode cX4_learn 33 = .ok (.iastore, 1) := by decide +kernel
theorem dX4_learn_34 : decode cX4_learn 34 = .ok (.return_, 1) := by decide +kernel
theorem dX4_learn_35 : decode cX4_learn 35 = .ok (.aload_n 0, 1) := by decide +kernel
theorem dX4_learn_36 : decode cX4_learn 36 = .ok (.getfield 16, 3) := by decide +kernel
theorem dX4_learn_39 : decode cX4_learn 39 = .ok (.iload_n 1, 1) := by decide +kernel
theorem dX4_learn_40 : decode cX4_learn 40 = .ok (.iaload, 1) := by decide +kernel
theorem dX4_learn_41 : decode cX4_learn 41 = .ok (.ifCond .ne 17, 3) := by decide +kernel
theorem dX4_learn_44 : decode cX4_learn 44 = .ok (.aload_n 0, 1) := by decide +kernel
theorem dX4_learn_45 : decode cX4_learn 45 = .ok (.getfield 19, 3) := by decide +kernel
theorem dX4_learn_48 : decode cX4_learn 48 = .ok (.iload_n 1, 1) := by decide +kernel
theorem dX4_learn_49 : decode cX4_learn 49 = .ok (.iconst 1, 1) := by decide +kernel
theorem dX4_learn_50 : decode cX4_learn 50 = .ok (.aload_n 0, 1) := by decide +kernel
theorem dX4_learn_51 : decode cX4_learn 51 = .ok (.getfield 19, 3) := by decide +kernel
theorem dX4_learn_54 : decode cX4_learn 54 = .ok (.iload_n 1, 1) := by decide +kernel
theorem dX4_learn_55 : decode cX4_learn 55 = .ok (.iaload, 1) := by decide +kernel
theorem dX4_learn_56 : decode cX4_learn 56 = .ok (.isub, 1) := by decide +kernel
theorem dX4_learn_57 : decode cX4_learn 57 = .ok (.iastore, 1) := by decide +kernel
theorem dX4_learn_58 : decode cX4_learn 58 = .ok (.aload_n 0, 1) := by decide +kernel
theorem dX4_learn_59 : decode cX4_learn 59 = .ok (.getfield 16, 3) := by decide +kernel
theorem dX4_learn_62 : decode cX4_learn 62 = .ok (.iload_n 1, 1) := by decide +kernel
theorem dX4_learn_63 : decode cX4_learn 63 = .ok (.aload_n 0, 1) := by decide +kernel
theorem dX4_learn_64 : decode cX4_learn 64 = .ok (.getfield 13, 3) := by decide +kernel
theorem dX4_learn_67 : decode cX4_learn 67 = .ok (.aload_n 0, 1) := by decide +kernel
theorem dX4_learn_68 : decode cX4_learn 68 = .ok (.getfield 16, 3) := by decide +kernel
theorem dX4_learn_71 : decode cX4_learn 71 = .ok (.iload_n 1, 1) := by decide +kernel
theorem dX4_learn_72 : decode cX4_learn 72 = .ok (.iaload, 1) := by decide +kernel
theorem dX4_learn_73 : decode cX4_learn 73 = .ok (.iaload, 1) := by decide +kernel
theorem dX4_learn_74 : decode cX4_learn 74 = .ok (.iastore, 1) := by decide +kernel
theorem dX4_learn_75 : decode cX4_learn 75 = .ok (.return_, 1) := by decide +kernel
theorem dX4_copyStarts_0 : decode cX4_copyStarts 0 = .ok (.iconst 0, 1) := by decide +kernel
theorem dX4_copyStarts_1 : decode cX4_copyStarts 1 = .ok (.istore_n 2, 1) := by decide +kernel
theorem dX4_copyStarts_2 : decode cX4_copyStarts 2 = .ok (.iload_n 2, 1) := by decide +kernel
theorem dX4_copyStarts_3 : decode cX4_copyStarts 3 = .ok (.bipush 32, 2) := by decide +kernel
theorem dX4_copyStarts_5 : decode cX4_copyStarts 5 = .ok (.if_icmp .ge 37, 3) := by decide +kernel
theorem dX4_copyStarts_8 : decode cX4_copyStarts 8 = .ok (.aload_n 0, 1) := by decide +kernel
theorem dX4_copyStarts_9 : decode cX4_copyStarts 9 = .ok (.getfield 16, 3) := by decide +kernel
theorem dX4_copyStarts_12 : decode cX4_copyStarts 12 = .ok (.iload_n 1, 1) := by decide +kernel
theorem dX4_copyStarts_13 : decode cX4_copyStarts 13 = .ok (.iload_n 2, 1) := by decide +kernel
theorem dX4_copyStarts_14 : decode cX4_copyStarts 14 = .ok (.iadd, 1) := by decide +kernel
theorem dX4_copyStarts_15 : decode cX4_copyStarts 15 = .ok (.aload_n 0, 1) := by decide +kernel
theorem dX4_copyStarts_16 : decode cX4_copyStarts 16 = .ok (.getfield 16, 3) := by decide +kernel
theorem dX4_copyStarts_19 : decode cX4_copyStarts 19 = .ok (.iload_n 2, 1) := by decide +kernel
theorem dX4_copyStarts_20 : decode cX4_copyStarts 20 = .ok (.iaload, 1) := by decide +kernel
theorem dX4_copyStarts_21 : decode cX4_copyStarts 21 = .ok (.iastore, 1) := by decide +kernel
theorem dX4_copyStarts_22 : decode cX4_copyStarts 22 = .ok (.aload_n 0, 1) := by decide +kernel
theorem dX4_copyStarts_23 : decode cX4_copyStarts 23 = .ok (.getfield 19, 3) := by decide +kernel
theorem dX4_copyStarts_26 : decode cX4_copyStarts 26 = .ok (.iload_n 1, 1) := by decide +kernel
theorem dX4_copyStarts_27 : decode cX4_copyStarts 27 = .ok (.iload_n 2, 1) := by decide +kernel
theorem dX4_copyStarts_28 : decode cX4_copyStarts 28 = .ok (.iadd, 1) := by decide +kernel
theorem dX4_copyStarts_29 : decode cX4_copyStarts 29 = .ok (.aload_n 0, 1) := by decide +kernel
theorem dX4_copyStarts_30 : decode cX4_copyStarts 30 = .ok (.getfield 19, 3) := by decide +kernel
theorem dX4_copyStarts_33 : decode cX4_copyStarts 33 = .ok (.iload_n 2, 1) := by decide +kernel
theorem dX4_copyStarts_34 : decode cX4_copyStarts 34 = .ok (.iaload, 1) := by decide +kernel
theorem dX4_copyStarts_35 : decode cX4_copyStarts 35 = .ok (.iastore, 1) := by decide +kernel
theorem dX4_copyStarts_36 : decode cX4_copyStarts 36 = .ok (.iinc 2 1, 3) := by decide +kernel
theorem dX4_copyStarts_39 : decode cX4_copyStarts 39 = .ok (.goto (-37), 3) := by decide +kernel
theorem dX4_copyStarts_42 : decode cX4_copyStarts 42 = .ok (.return_, 1) := by decide +kernel
set_option maxRecDepth 20000 in
theorem ggX4_set_X4_noContext : GoodIn wsX4_set wsX4_noContext := goodIn_r _ [7] (by decide +kernel) (by decide +kernel)
set_option maxRecDepth 20000 in
theorem gX4_set_X4_noContext : GoodIn wsX4_set (va_wsS RX4 39 yX4_noContext wsX4_noContext) := goodIn_app (goodIn_of _ (by decide +kernel)) ggX4_set_X4_noContext
set_option maxRecDepth 20000 in
theorem ggX4_set_X4_noBin : GoodIn wsX4_set wsX4_noBin := goodIn_r _ [10] (by decide +kernel) (by decide +kernel)
set_option maxRecDepth 20000 in
theorem gX4_set_X4_noBin : GoodIn wsX4_set (va_wsS RX4 43 yX4_noBin wsX4_noBin) := goodIn_app (goodIn_of _ (by decide +kernel)) ggX4_set_X4_noBin
theorem dX4_set_0 : decode cX4_set 0 = .ok (.aload_n 0, 1) := by decide +kernel
theorem dX4_set_1 : decode cX4_set 1 = .ok (.iload_n 1, 1) := by decide +kernel
theorem dX4_set_2 : decode cX4_set 2 = .ok (.invokestatic 39, 3) := by decide +kernel
theorem dX4_set_5 : decode cX4_set 5 = .ok (.ifCond .eq 7, 3) := by decide +kernel
theorem dX4_set_8 : decode cX4_set 8 = .ok (.iconst 1, 1) := by decide +kernel
theorem dX4_set_9 : decode cX4_set 9 = .ok (.goto 25, 3) := by decide +kernel
theorem dX4_set_12 : decode cX4_set 12 = .ok (.iload_n 2, 1) := by decide +kernel
theorem dX4_set_13 : decode cX4_set 13 = .ok (.ifCond .lt 16, 3) := by decide +kernel
theorem dX4_set_16 : decode cX4_set 16 = .ok (.iload_n 2, 1) := by decide +kernel
theorem dX4_set_17 : decode cX4_set 17 = .ok (.bipush 62, 2) := by decide +kernel
theorem dX4_set_19 : decode cX4_set 19 = .ok (.if_icmp .gt 10, 3) := by decide +kernel
theorem dX4_set_22 : decode cX4_set 22 = .ok (.iload_n 3, 1) := by decide +kernel
theorem dX4_set_23 : decode cX4_set 23 = .ok (.invokestatic 43, 3) := by decide +kernel
theorem dX4_set_26 : decode cX4_set 26 = .ok (.ifCond .eq 7, 3) := by decide +kernel
theorem dX4_set_29 : decode cX4_set 29 = .ok (.iconst 2, 1) := by decide +kernel
theorem dX4_set_30 : decode cX4_set 30 = .ok (.goto 4, 3) := by decide +kernel
theorem dX4_set_33 : decode cX4_set 33 = .ok (.iconst 0, 1) := by decide +kernel
theorem dX4_set_34 : decode cX4_set 34 = .ok (.putfield 35, 3) := by decide +kernel
theorem dX4_set_37 : decode cX4_set 37 = .ok (.aload_n 0, 1) := by decide +kernel
theorem dX4_set_38 : decode cX4_set 38 = .ok (.getfield 35, 3) := by decide +kernel
theorem dX4_set_41 : decode cX4_set 41 = .ok (.ifCond .le 4, 3) := by decide +kernel
theorem dX4_set_44 : decode cX4_set 44 = .ok (.return_, 1) := by decide +kernel
theorem dX4_set_45 : decode cX4_set 45 = .ok (.aload_n 0, 1) := by decide +kernel
theorem dX4_set_46 : decode cX4_set 46 = .ok (.getfield 16, 3) := by decide +kernel
theorem dX4_set_49 : decode cX4_set 49 = .ok (.iload_n 1, 1) := by decide +kernel
theorem dX4_set_50 : decode cX4_set 50 = .ok (.iload_n 2, 1) := by decide +kernel
theorem dX4_set_51 : decode cX4_set 51 = .ok (.iastore, 1) := by decide +kernel
theorem dX4_set_52 : decode cX4_set 52 = .ok (.aload_n 0, 1) := by decide +kernel
theorem dX4_set_53 : decode cX4_set 53 = .ok (.getfield 19, 3) := by decide +kernel
theorem dX4_set_56 : decode cX4_set 56 = .ok (.iload_n 1, 1) := by decide +kernel
theorem dX4_set_57 : decode cX4_set 57 = .ok (.iload_n 3, 1) := by decide +kernel
theorem dX4_set_58 : decode cX4_set 58 = .ok (.iastore, 1) := by decide +kernel
theorem dX4_set_59 : decode cX4_set 59 = .ok (.return_, 1) := by decide +kernel
set_option maxRecDepth 20000 in
theorem ggX4_start_X4_copyStarts : GoodIn wsX4_start wsX4_copyStarts := goodIn_r _ [14, 15, 16, 17, 18, 19, 20, 21, 22, 23, 24, 25, 26, 27, 28, 29, 30, 31, 32, 33, 34, 35, 36, 37] (by decide +kernel) (by decide +kernel)
set_option maxRecDepth 20000 in
theorem gX4_start_X4_copyStarts : GoodIn wsX4_start (wsV RX4 68 RX4 yX4_copyStarts wsX4_copyStarts) := goodIn_app (goodIn_of _ (by decide +kernel)) ggX4_start_X4_copyStarts
theorem dX4_start_0 : decode cX4_start 0 = .ok (.aload_n 0, 1) := by decide +kernel
theorem dX4_start_1 : decode cX4_start 1 = .ok (.iconst 0, 1) := by decide +kernel
theorem dX4_start_2 : decode cX4_start 2 = .ok (.putfield 35, 3) := by decide +kernel
theorem dX4_start_5 : decode cX4_start 5 = .ok (.aload_n 0, 1) := by decide +kernel
theorem dX4_start_6 : decode cX4_start 6 = .ok (.iconst 1, 1) := by decide +kernel
theorem dX4_start_7 : decode cX4_start 7 = .ok (.putfield 46, 3) := by decide +kernel
theorem dX4_start_10 : decode cX4_start 10 = .ok (.aload_n 0, 1) := by decide +kernel
theorem dX4_start_11 : decode cX4_start 11 = .ok (.sipush 510, 3) := by decide +kernel
theorem dX4_start_14 : decode cX4_start 14 = .ok (.putfield 50, 3) := by decide +kernel
theorem dX4_start_17 : decode cX4_start 17 = .ok (.aload_n 0, 1) := by decide +kernel
theorem dX4_start_18 : decode cX4_start 18 = .ok (.iconst 0, 1) := by decide +kernel
theorem dX4_start_19 : decode cX4_start 19 = .ok (.putfield 53, 3) := by decide +kernel
theorem dX4_start_22 : decode cX4_start 22 = .ok (.aload_n 0, 1) := by decide +kernel
theorem dX4_start_23 : decode cX4_start 23 = .ok (.iconst 0, 1) := by decide +kernel
theorem dX4_start_24 : decode cX4_start 24 = .ok (.putfield 56, 3) := by decide +kernel
theorem dX4_start_27 : decode cX4_start 27 = .ok (.aload_n 0, 1) := by decide +kernel
theorem dX4_start_28 : decode cX4_start 28 = .ok (.iconst 0, 1) := by decide +kernel
theorem dX4_start_29 : decode cX4_start 29 = .ok (.putfield 59, 3) := by decide +kernel
theorem dX4_start_32 : decode cX4_start 32 = .ok (.aload_n 0, 1) := by decide +kernel
theorem dX4_start_33 : decode cX4_start 33 = .ok (.iconst 0, 1) := by decide +kernel
theorem dX4_start_34 : decode cX4_start 34 = .ok (.putfield 62, 3) := by decide +kernel
theorem dX4_start_37 : decode cX4_start 37 = .ok (.aload_n 0, 1) := by decide +kernel
theorem dX4_start_38 : decode cX4_start 38 = .ok (.iconst 0, 1) := by decide +kernel
theorem dX4_start_39 : decode cX4_start 39 = .ok (.putfield 65, 3) := by decide +kernel
theorem dX4_start_42 : decode cX4_start 42 = .ok (.iconst 0, 1) := by decide +kernel
theorem dX4_start_43 : decode cX4_start 43 = .ok (.istore_n 1, 1) := by decide +kernel
theorem dX4_start_44 : decode cX4_start 44 = .ok (.iload_n 1, 1) := by decide +kernel
theorem dX4_start_45 : decode cX4_start 45 = .ok (.sipush 2600, 3) := by decide +kernel
theorem dX4_start_48 : decode cX4_start 48 = .ok (.if_icmp .ge 16, 3) := by decide +kernel
theorem dX4_start_51 : decode cX4_start 51 = .ok (.aload_n 0, 1) := by decide +kernel
theorem dX4_start_52 : decode cX4_start 52 = .ok (.getfield 22, 3) := by decide +kernel
theorem dX4_start_55 : decode cX4_start 55 = .ok (.iload_n 1, 1) := by decide +kernel
theorem dX4_start_56 : decode cX4_start 56 = .ok (.iconst 0, 1) := by decide +kernel
theorem dX4_start_57 : decode cX4_start 57 = .ok (.iastore, 1) := by decide +kernel
theorem dX4_start_58 : decode cX4_start 58 = .ok (.iinc 1 1, 3) := by decide +kernel
theorem dX4_start_61 : decode cX4_start 61 = .ok (.goto (-17), 3) := by decide +kernel
theorem dX4_start_64 : decode cX4_start 64 = .ok (.aload_n 0, 1) := by decide +kernel
theorem dX4_start_65 : decode cX4_start 65 = .ok (.bipush 32, 2) := by decide +kernel
theorem dX4_start_67 : decode cX4_start 67 = .ok (.invokevirtual 68, 3) := by decide +kernel
theorem dX4_start_70 : decode cX4_start 70 = .ok (.return_, 1) := by decide +kernel
theorem dX4_add_0 : decode cX4_add 0 = .ok (.iload_n 1, 1) := by decide +kernel
theorem dX4_add_1 : decode cX4_add 1 = .ok (.istore_n 2, 1) := by decide +kernel
theorem dX4_add_2 : decode cX4_add 2 = .ok (.iconst 0, 1) := by decide +kernel
theorem dX4_add_3 : decode cX4_add 3 = .ok (.istore_n 3, 1) := by decide +kernel
theorem dX4_add_4 : decode cX4_add 4 = .ok (.aload_n 0, 1) := by decide +kernel
theorem dX4_add_5 : decode cX4_add 5 = .ok (.getfield 59, 3) := by decide +kernel
theorem dX4_add_8 : decode cX4_add 8 = .ok (.bipush 9, 2) := by decide +kernel
theorem dX4_add_10 : decode cX4_add 10 = .ok (.iadd, 1) := by decide +kernel
theorem dX4_add_11 : decode cX4_add 11 = .ok (.istore 4, 2) := by decide +kernel
theorem dX4_add_13 : decode cX4_add 13 = .ok (.iload 4, 2) := by decide +kernel
theorem dX4_add_15 : decode cX4_add 15 = .ok (.ifCond .lt 52, 3) := by decide +kernel
theorem dX4_add_18 : decode cX4_add 18 = .ok (.iload_n 2, 1) := by decide +kernel
theorem dX4_add_19 : decode cX4_add 19 = .ok (.ifCond .gt 7, 3) := by decide +kernel
theorem dX4_add_22 : decode cX4_add 22 = .ok (.iload_n 3, 1) := by decide +kernel
theorem dX4_add_23 : decode cX4_add 23 = .ok (.ifCond .le 44, 3) := by decide +kernel
theorem dX4_add_26 : decode cX4_add 26 = .ok (.aload_n 0, 1) := by decide +kernel
theorem dX4_add_27 : decode cX4_add 27 = .ok (.getfield 22, 3) := by decide +kernel
theorem dX4_add_30 : decode cX4_add 30 = .ok (.iload 4, 2) := by decide +kernel
theorem dX4_add_32 : decode cX4_add 32 = .ok (.iaload, 1) := by decide +kernel
theorem dX4_add_33 : decode cX4_add 33 = .ok (.iload_n 2, 1) := by decide +kernel
theorem dX4_add_34 : decode cX4_add 34 = .ok (.iconst 1, 1) := by decide +kernel
theorem dX4_add_35 : decode cX4_add 35 = .ok (.iand, 1) := by decide +kernel
theorem dX4_add_36 : decode cX4_add 36 = .ok (.iadd, 1) := by decide +kernel
theorem dX4_add_37 : decode cX4_add 37 = .ok (.iload_n 3, 1) := by decide +kernel
theorem dX4_add_38 : decode cX4_add 38 = .ok (.iadd, 1) := by decide +kernel
theorem dX4_add_39 : decode cX4_add 39 = .ok (.istore 5, 2) := by decide +kernel
theorem dX4_add_41 : decode cX4_add 41 = .ok (.aload_n 0, 1) := by decide +kernel
theorem dX4_add_42 : decode cX4_add 42 = .ok (.getfield 22, 3) := by decide +kernel
theorem dX4_add_45 : decode cX4_add 45 = .ok (.iload 4, 2) := by decide +kernel
theorem dX4_add_47 : decode cX4_add 47 = .ok (.iload 5, 2) := by decide +kernel
theorem dX4_add_49 : decode cX4_add 49 = .ok (.iconst 1, 1) := by decide +kernel
theorem dX4_add_50 : decode cX4_add 50 = .ok (.iand, 1) := by decide +kernel
theorem dX4_add_51 : decode cX4_add 51 = .ok (.iastore, 1) := by decide +kernel
theorem dX4_add_52 : decode cX4_add 52 = .ok (.iload 5, 2) := by decide +kernel
theorem dX4_add_54 : decode cX4_add 54 = .ok (.iconst 1, 1) := by decide +kernel
theorem dX4_add_55 : decode cX4_add 55 = .ok (.ishr, 1) := by decide +kernel
theorem dX4_add_56 : decode cX4_add 56 = .ok (.istore_n 3, 1) := by decide +kernel
theorem dX4_add_57 : decode cX4_add 57 = .ok (.iload_n 2, 1) := by decide +kernel
theorem dX4_add_58 : decode cX4_add 58 = .ok (.iconst 1, 1) := by decide +kernel
theorem dX4_add_59 : decode cX4_add 59 = .ok (.ishr, 1) := by decide +kernel
theorem dX4_add_60 : decode cX4_add 60 = .ok (.istore_n 2, 1) := by decide +kernel
theorem dX4_add_61 : decode cX4_add 61 = .ok (.iinc 4 (-1), 3) := by decide +kernel
theorem dX4_add_64 : decode cX4_add 64 = .ok (.goto (-51), 3) := by decide +kernel
theorem dX4_add_67 : decode cX4_add 67 = .ok (.aload_n 0, 1) := by decide +kernel
theorem dX4_add_68 : decode cX4_add 68 = .ok (.aload_n 0, 1) := by decide +kernel
theorem dX4_add_69 : decode cX4_add 69 = .ok (.getfield 53, 3) := by decide +kernel
theorem dX4_add_72 : decode cX4_add 72 = .ok (.iload_n 1, 1) := by decide +kernel
theorem dX4_add_73 : decode cX4_add 73 = .ok (.iadd, 1) := by decide +kernel
theorem dX4_add_74 : decode cX4_add 74 = .ok (.putfield 53, 3) := by decide +kernel
theorem dX4_add_77 : decode cX4_add 77 = .ok (.return_, 1) := by decide +kernel
theorem dX4_settle_0 : decode cX4_settle 0 = .ok (.aload_n 0, 1) := by decide +kernel
theorem dX4_settle_1 : decode cX4_settle 1 = .ok (.getfield 53, 3) := by decide +kernel
theorem dX4_settle_4 : decode cX4_settle 4 = .ok (.iload_n 1, 1) := by decide +kernel
theorem dX4_settle_5 : decode cX4_settle 5 = .ok (.if_icmp .lt 17, 3) := by decide +kernel
theorem dX4_settle_8 : decode cX4_settle 8 = .ok (.aload_n 0, 1) := by decide +kernel
theorem dX4_settle_9 : decode cX4_settle 9 = .ok (.getfield 53, 3) := by decide +kernel
theorem dX4_settle_12 : decode cX4_settle 12 = .ok (.iconst 2, 1) := by decide +kernel
theorem dX4_settle_13 : decode cX4_settle 13 = .ok (.iload_n 1, 1) := by decide +kernel
theorem dX4_settle_14 : decode cX4_settle 14 = .ok (.imul, 1) := by decide +kernel
theorem dX4_settle_15 : decode cX4_settle 15 = .ok (.if_icmp .ge 7, 3) := by decide +kernel
theorem dX4_settle_18 : decode cX4_settle 18 = .ok (.iconst 1, 1) := by decide +kernel
theorem dX4_settle_19 : decode cX4_settle 19 = .ok (.goto 4, 3) := by decide +kernel
theorem dX4_settle_22 : decode cX4_settle 22 = .ok (.iconst 0, 1) := by decide +kernel
theorem dX4_settle_23 : decode cX4_settle 23 = .ok (.istore_n 2, 1) := by decide +kernel
theorem dX4_settle_24 : decode cX4_settle 24 = .ok (.aload_n 0, 1) := by decide +kernel
theorem dX4_settle_25 : decode cX4_settle 25 = .ok (.iload_n 2, 1) := by decide +kernel
theorem dX4_settle_26 : decode cX4_settle 26 = .ok (.ifCond .eq 12, 3) := by decide +kernel
theorem dX4_settle_29 : decode cX4_settle 29 = .ok (.aload_n 0, 1) := by decide +kernel
theorem dX4_settle_30 : decode cX4_settle 30 = .ok (.getfield 56, 3) := by decide +kernel
theorem dX4_settle_33 : decode cX4_settle 33 = .ok (.iconst 1, 1) := by decide +kernel
theorem dX4_settle_34 : decode cX4_settle 34 = .ok (.iadd, 1) := by decide +kernel
theorem dX4_settle_35 : decode cX4_settle 35 = .ok (.goto 4, 3) := by decide +kernel
theorem dX4_settle_38 : decode cX4_settle 38 = .ok (.iconst 0, 1) := by decide +kernel
theorem dX4_settle_39 : decode cX4_settle 39 = .ok (.putfield 56, 3) := by decide +kernel
theorem dX4_settle_42 : decode cX4_settle 42 = .ok (.aload_n 0, 1) := by decide +kernel
theorem dX4_settle_43 : decode cX4_settle 43 = .ok (.aload_n 0, 1) := by decide +kernel
theorem dX4_settle_44 : decode cX4_settle 44 = .ok (.getfield 53, 3) := by decide +kernel
theorem dX4_settle_47 : decode cX4_settle 47 = .ok (.iload_n 1, 1) := by decide +kernel
theorem dX4_settle_48 : decode cX4_settle 48 = .ok (.if_icmp .ge 10, 3) := by decide +kernel
theorem dX4_settle_51 : decode cX4_settle 51 = .ok (.aload_n 0, 1) := by decide +kernel
theorem dX4_settle_52 : decode cX4_settle 52 = .ok (.getfield 53, 3) := by decide +kernel
theorem dX4_settle_55 : decode cX4_settle 55 = .ok (.goto 24, 3) := by decide +kernel
theorem dX4_settle_58 : decode cX4_settle 58 = .ok (.iload_n 2, 1) := by decide +kernel
theorem dX4_settle_59 : decode cX4_settle 59 = .ok (.ifCond .eq 12, 3) := by decide +kernel
theorem dX4_settle_62 : decode cX4_settle 62 = .ok (.aload_n 0, 1) := by decide +kernel
theorem dX4_settle_63 : decode cX4_settle 63 = .ok (.getfield 53, 3) := by decide +kernel
theorem dX4_settle_66 : decode cX4_settle 66 = .ok (.iload_n 1, 1) := by decide +kernel
