theorem d_Model_init_750 : decode b_Model_init 750 = .ok (.bipush 46, 2) := by decide +kernel
theorem d_Model_init_752 : decode b_Model_init 752 = .ok (.sipush 4182, 3) := by decide +kernel
theorem d_Model_init_755 : decode b_Model_init 755 = .ok (.iastore, 1) := by decide +kernel
theorem d_Model_init_756 : decode b_Model_init 756 = .ok (.dup, 1) := by decide +kernel
theorem d_Model_init_757 : decode b_Model_init 757 = .ok (.bipush 47, 2) := by decide +kernel
theorem d_Model_init_759 : decode b_Model_init 759 = .ok (.sipush 4183, 3) := by decide +kernel
theorem d_Model_init_762 : decode b_Model_init 762 = .ok (.iastore, 1) := by decide +kernel
theorem d_Model_init_763 : decode b_Model_init 763 = .ok (.dup, 1) := by decide +kernel
theorem d_Model_init_764 : decode b_Model_init 764 = .ok (.bipush 48, 2) := by decide +kernel
theorem d_Model_init_766 : decode b_Model_init 766 = .ok (.sipush 4196, 3) := by decide +kernel
theorem d_Model_init_769 : decode b_Model_init 769 = .ok (.iastore, 1) := by decide +kernel
theorem d_Model_init_770 : decode b_Model_init 770 = .ok (.dup, 1) := by decide +kernel
theorem d_Model_init_771 : decode b_Model_init 771 = .ok (.bipush 49, 2) := by decide +kernel
theorem d_Model_init_773 : decode b_Model_init 773 = .ok (.sipush 4197, 3) := by decide +kernel
theorem d_Model_init_776 : decode b_Model_init 776 = .ok (.iastore, 1) := by decide +kernel
theorem d_Model_init_777 : decode b_Model_init 777 = .ok (.dup, 1) := by decide +kernel
theorem d_Model_init_778 : decode b_Model_init 778 = .ok (.bipush 50, 2) := by decide +kernel
theorem d_Model_init_780 : decode b_Model_init 780 = .ok (.sipush 4178, 3) := by decide +kernel
theorem d_Model_init_783 : decode b_Model_init 783 = .ok (.iastore, 1) := by decide +kernel
theorem d_Model_init_784 : decode b_Model_init 784 = .ok (.dup, 1) := by decide +kernel
theorem d_Model_init_785 : decode b_Model_init 785 = .ok (.bipush 51, 2) := by decide +kernel
theorem d_Model_init_787 : decode b_Model_init 787 = .ok (.sipush 4179, 3) := by decide +kernel
theorem d_Model_init_790 : decode b_Model_init 790 = .ok (.iastore, 1) := by decide +kernel
theorem d_Model_init_791 : decode b_Model_init 791 = .ok (.dup, 1) := by decide +kernel
theorem d_Model_init_792 : decode b_Model_init 792 = .ok (.bipush 52, 2) := by decide +kernel
theorem d_Model_init_794 : decode b_Model_init 794 = .ok (.sipush 4132, 3) := by decide +kernel
theorem d_Model_init_797 : decode b_Model_init 797 = .ok (.iastore, 1) := by decide +kernel
theorem d_Model_init_798 : decode b_Model_init 798 = .ok (.dup, 1) := by decide +kernel
theorem d_Model_init_799 : decode b_Model_init 799 = .ok (.bipush 53, 2) := by decide +kernel
theorem d_Model_init_801 : decode b_Model_init 801 = .ok (.sipush 4151, 3) := by decide +kernel
theorem d_Model_init_804 : decode b_Model_init 804 = .ok (.iastore, 1) := by decide +kernel
theorem d_Model_init_805 : decode b_Model_init 805 = .ok (.dup, 1) := by decide +kernel
theorem d_Model_init_806 : decode b_Model_init 806 = .ok (.bipush 54, 2) := by decide +kernel
theorem d_Model_init_808 : decode b_Model_init 808 = .ok (.sipush 4152, 3) := by decide +kernel
theorem d_Model_init_811 : decode b_Model_init 811 = .ok (.iastore, 1) := by decide +kernel
theorem d_Model_init_812 : decode b_Model_init 812 = .ok (.dup, 1) := by decide +kernel
theorem d_Model_init_813 : decode b_Model_init 813 = .ok (.bipush 55, 2) := by decide +kernel
theorem d_Model_init_815 : decode b_Model_init 815 = .ok (.sipush 4135, 3) := by decide +kernel
theorem d_Model_init_818 : decode b_Model_init 818 = .ok (.iastore, 1) := by decide +kernel
theorem d_Model_init_819 : decode b_Model_init 819 = .ok (.dup, 1) := by decide +kernel
theorem d_Model_init_820 : decode b_Model_init 820 = .ok (.bipush 56, 2) := by decide +kernel
theorem d_Model_init_822 : decode b_Model_init 822 = .ok (.sipush 4136, 3) := by decide +kernel
theorem d_Model_init_825 : decode b_Model_init 825 = .ok (.iastore, 1) := by decide +kernel
theorem d_Model_init_826 : decode b_Model_init 826 = .ok (.dup, 1) := by decide +kernel
theorem d_Model_init_827 : decode b_Model_init 827 = .ok (.bipush 57, 2) := by decide +kernel
theorem d_Model_init_829 : decode b_Model_init 829 = .ok (.sipush 4184, 3) := by decide +kernel
theorem d_Model_init_832 : decode b_Model_init 832 = .ok (.iastore, 1) := by decide +kernel
theorem d_Model_init_833 : decode b_Model_init 833 = .ok (.dup, 1) := by decide +kernel
theorem d_Model_init_834 : decode b_Model_init 834 = .ok (.bipush 58, 2) := by decide +kernel
theorem d_Model_init_836 : decode b_Model_init 836 = .ok (.sipush 4185, 3) := by decide +kernel
theorem d_Model_init_839 : decode b_Model_init 839 = .ok (.iastore, 1) := by decide +kernel
theorem d_Model_init_840 : decode b_Model_init 840 = .ok (.dup, 1) := by decide +kernel
theorem d_Model_init_841 : decode b_Model_init 841 = .ok (.bipush 59, 2) := by decide +kernel
theorem d_Model_init_843 : decode b_Model_init 843 = .ok (.sipush 4139, 3) := by decide +kernel
theorem d_Model_init_846 : decode b_Model_init 846 = .ok (.iastore, 1) := by decide +kernel
theorem d_Model_init_847 : decode b_Model_init 847 = .ok (.dup, 1) := by decide +kernel
theorem d_Model_init_848 : decode b_Model_init 848 = .ok (.bipush 60, 2) := by decide +kernel
theorem d_Model_init_850 : decode b_Model_init 850 = .ok (.sipush 4140, 3) := by decide +kernel
theorem d_Model_init_853 : decode b_Model_init 853 = .ok (.iastore, 1) := by decide +kernel
theorem d_Model_init_854 : decode b_Model_init 854 = .ok (.dup, 1) := by decide +kernel
theorem d_Model_init_855 : decode b_Model_init 855 = .ok (.bipush 61, 2) := by decide +kernel
theorem d_Model_init_857 : decode b_Model_init 857 = .ok (.sipush 4186, 3) := by decide +kernel
theorem d_Model_init_860 : decode b_Model_init 860 = .ok (.iastore, 1) := by decide +kernel
theorem d_Model_init_861 : decode b_Model_init 861 = .ok (.dup, 1) := by decide +kernel
theorem d_Model_init_862 : decode b_Model_init 862 = .ok (.bipush 62, 2) := by decide +kernel
theorem d_Model_init_864 : decode b_Model_init 864 = .ok (.sipush 4198, 3) := by decide +kernel
theorem d_Model_init_867 : decode b_Model_init 867 = .ok (.iastore, 1) := by decide +kernel
theorem d_Model_init_868 : decode b_Model_init 868 = .ok (.dup, 1) := by decide +kernel
theorem d_Model_init_869 : decode b_Model_init 869 = .ok (.bipush 63, 2) := by decide +kernel
theorem d_Model_init_871 : decode b_Model_init 871 = .ok (.sipush 4199, 3) := by decide +kernel
theorem d_Model_init_874 : decode b_Model_init 874 = .ok (.iastore, 1) := by decide +kernel
theorem d_Model_init_875 : decode b_Model_init 875 = .ok (.putfield 13, 3) := by decide +kernel
theorem d_Model_init_878 : decode b_Model_init 878 = .ok (.aload_n 0, 1) := by decide +kernel
theorem d_Model_init_879 : decode b_Model_init 879 = .ok (.bipush 27, 2) := by decide +kernel
theorem d_Model_init_881 : decode b_Model_init 881 = .ok (.newarray .int, 2) := by decide +kernel
theorem d_Model_init_883 : decode b_Model_init 883 = .ok (.dup, 1) := by decide +kernel
theorem d_Model_init_884 : decode b_Model_init 884 = .ok (.iconst 0, 1) := by decide +kernel
theorem d_Model_init_885 : decode b_Model_init 885 = .ok (.bipush 59, 2) := by decide +kernel
theorem d_Model_init_887 : decode b_Model_init 887 = .ok (.iastore, 1) := by decide +kernel
theorem d_Model_init_888 : decode b_Model_init 888 = .ok (.dup, 1) := by decide +kernel
theorem d_Model_init_889 : decode b_Model_init 889 = .ok (.iconst 1, 1) := by decide +kernel
theorem d_Model_init_890 : decode b_Model_init 890 = .ok (.bipush 50, 2) := by decide +kernel
theorem d_Model_init_892 : decode b_Model_init 892 = .ok (.iastore, 1) := by decide +kernel
theorem d_Model_init_893 : decode b_Model_init 893 = .ok (.dup, 1) := by decide +kernel
theorem d_Model_init_894 : decode b_Model_init 894 = .ok (.iconst 2, 1) := by decide +kernel
theorem d_Model_init_895 : decode b_Model_init 895 = .ok (.bipush 87, 2) := by decide +kernel
theorem d_Model_init_897 : decode b_Model_init 897 = .ok (.iastore, 1) := by decide +kernel
theorem d_Model_init_898 : decode b_Model_init 898 = .ok (.dup, 1) := by decide +kernel
theorem d_Model_init_899 : decode b_Model_init 899 = .ok (.iconst 3, 1) := by decide +kernel
theorem d_Model_init_900 : decode b_Model_init 900 = .ok (.sipush 183, 3) := by decide +kernel
theorem d_Model_init_903 : decode b_Model_init 903 = .ok (.iastore, 1) := by decide +kernel
theorem d_Model_init_904 : decode b_Model_init 904 = .ok (.dup, 1) := by decide +kernel
theorem d_Model_init_905 : decode b_Model_init 905 = .ok (.iconst 4, 1) := by decide +kernel
theorem d_Model_init_906 : decode b_Model_init 906 = .ok (.sipush 310, 3) := by decide +kernel
theorem d_Model_init_909 : decode b_Model_init 909 = .ok (.iastore, 1) := by decide +kernel
theorem d_Model_init_910 : decode b_Model_init 910 = .ok (.dup, 1) := by decide +kernel
theorem d_Model_init_911 : decode b_Model_init 911 = .ok (.iconst 5, 1) := by decide +kernel
theorem d_Model_init_912 : decode b_Model_init 912 = .ok (.sipush 311, 3) := by decide +kernel
theorem d_Model_init_915 : decode b_Model_init 915 = .ok (.iastore, 1) := by decide +kernel
theorem d_Model_init_916 : decode b_Model_init 916 = .ok (.dup, 1) := by decide +kernel
theorem d_Model_init_917 : decode b_Model_init 917 = .ok (.bipush 6, 2) := by decide +kernel
theorem d_Model_init_919 : decode b_Model_init 919 = .ok (.sipush 356, 3) := by decide +kernel
theorem d_Model_init_922 : decode b_Model_init 922 = .ok (.iastore, 1) := by decide +kernel
theorem d_Model_init_923 : decode b_Model_init 923 = .ok (.dup, 1) := by decide +kernel
theorem d_Model_init_924 : decode b_Model_init 924 = .ok (.bipush 7, 2) := by decide +kernel
theorem d_Model_init_926 : decode b_Model_init 926 = .ok (.sipush 357, 3) := by decide +kernel
theorem d_Model_init_929 : decode b_Model_init 929 = .ok (.iastore, 1) := by decide +kernel
theorem d_Model_init_930 : decode b_Model_init 930 = .ok (.dup, 1) := by decide +kernel
theorem d_Model_init_931 : decode b_Model_init 931 = .ok (.bipush 8, 2) := by decide +kernel
theorem d_Model_init_933 : decode b_Model_init 933 = .ok (.sipush 360, 3) := by decide +kernel
theorem d_Model_init_936 : decode b_Model_init 936 = .ok (.iastore, 1) := by decide +kernel
theorem d_Model_init_937 : decode b_Model_init 937 = .ok (.dup, 1) := by decide +kernel
theorem d_Model_init_938 : decode b_Model_init 938 = .ok (.bipush 9, 2) := by decide +kernel
theorem d_Model_init_940 : decode b_Model_init 940 = .ok (.sipush 359, 3) := by decide +kernel
theorem d_Model_init_943 : decode b_Model_init 943 = .ok (.iastore, 1) := by decide +kernel
theorem d_Model_init_944 : decode b_Model_init 944 = .ok (.dup, 1) := by decide +kernel
theorem d_Model_init_945 : decode b_Model_init 945 = .ok (.bipush 10, 2) := by decide +kernel
theorem d_Model_init_947 : decode b_Model_init 947 = .ok (.sipush 716, 3) := by decide +kernel
theorem d_Model_init_950 : decode b_Model_init 950 = .ok (.iastore, 1) := by decide +kernel
theorem d_Model_init_951 : decode b_Model_init 951 = .ok (.dup, 1) := by decide +kernel
theorem d_Model_init_952 : decode b_Model_init 952 = .ok (.bipush 11, 2) := by decide +kernel
theorem d_Model_init_954 : decode b_Model_init 954 = .ok (.sipush 717, 3) := by decide +kernel
theorem d_Model_init_957 : decode b_Model_init 957 = .ok (.iastore, 1) := by decide +kernel
theorem d_Model_init_958 : decode b_Model_init 958 = .ok (.dup, 1) := by decide +kernel
theorem d_Model_init_959 : decode b_Model_init 959 = .ok (.bipush 12, 2) := by decide +kernel
theorem d_Model_init_961 : decode b_Model_init 961 = .ok (.sipush 722, 3) := by decide +kernel
theorem d_Model_init_964 : decode b_Model_init 964 = .ok (.iastore, 1) := by decide +kernel
theorem d_Model_init_965 : decode b_Model_init 965 = .ok (.dup, 1) := by decide +kernel
theorem d_Model_init_966 : decode b_Model_init 966 = .ok (.bipush 13, 2) := by decide +kernel
theorem d_Model_init_968 : decode b_Model_init 968 = .ok (.sipush 723, 3) := by decide +kernel
theorem d_Model_init_971 : decode b_Model_init 971 = .ok (.iastore, 1) := by decide +kernel
theorem d_Model_init_972 : decode b_Model_init 972 = .ok (.dup, 1) := by decide +kernel
theorem d_Model_init_973 : decode b_Model_init 973 = .ok (.bipush 14, 2) := by decide +kernel
theorem d_Model_init_975 : decode b_Model_init 975 = .ok (.sipush 724, 3) := by decide +kernel
theorem d_Model_init_978 : decode b_Model_init 978 = .ok (.iastore, 1) := by decide +kernel
theorem d_Model_init_979 : decode b_Model_init 979 = .ok (.dup, 1) := by decide +kernel
theorem d_Model_init_980 : decode b_Model_init 980 = .ok (.bipush 15, 2) := by decide +kernel
theorem d_Model_init_982 : decode b_Model_init 982 = .ok (.sipush 725, 3) := by decide +kernel
theorem d_Model_init_985 : decode b_Model_init 985 = .ok (.iastore, 1) := by decide +kernel
theorem d_Model_init_986 : decode b_Model_init 986 = .ok (.dup, 1) := by decide +kernel
theorem d_Model_init_987 : decode b_Model_init 987 = .ok (.bipush 16, 2) := by decide +kernel
theorem d_Model_init_989 : decode b_Model_init 989 = .ok (.sipush 726, 3) := by decide +kernel
theorem d_Model_init_992 : decode b_Model_init 992 = .ok (.iastore, 1) := by decide +kernel
theorem d_Model_init_993 : decode b_Model_init 993 = .ok (.dup, 1) := by decide +kernel
theorem d_Model_init_994 : decode b_Model_init 994 = .ok (.bipush 17, 2) := by decide +kernel
theorem d_Model_init_996 : decode b_Model_init 996 = .ok (.sipush 727, 3) := by decide +kernel
theorem d_Model_init_999 : decode b_Model_init 999 = .ok (.iastore, 1) := by decide +kernel
theorem d_Model_init_1000 : decode b_Model_init 1000 = .ok (.dup, 1) := by decide +kernel
theorem d_Model_init_1001 : decode b_Model_init 1001 = .ok (.bipush 18, 2) := by decide +kernel
theorem d_Model_init_1003 : decode b_Model_init 1003 = .ok (.sipush 728, 3) := by decide +kernel
theorem d_Model_init_1006 : decode b_Model_init 1006 = .ok (.iastore, 1) := by decide +kernel
theorem d_Model_init_1007 : decode b_Model_init 1007 = .ok (.dup, 1) := by decide +kernel
theorem d_Model_init_1008 : decode b_Model_init 1008 = .ok (.bipush 19, 2) := by decide +kernel
theorem d_Model_init_1010 : decode b_Model_init 1010 = .ok (.sipush 729, 3) := by decide +kernel
theorem d_Model_init_1013 : decode b_Model_init 1013 = .ok (.iastore, 1) := by decide +kernel
theorem d_Model_init_1014 : decode b_Model_init 1014 = .ok (.dup, 1) := by decide +kernel
theorem d_Model_init_1015 : decode b_Model_init 1015 = .ok (.bipush 20, 2) := by decide +kernel
theorem d_Model_init_1017 : decode b_Model_init 1017 = .ok (.sipush 730, 3) := by decide +kernel
theorem d_Model_init_1020 : decode b_Model_init 1020 = .ok (.iastore, 1) := by decide +kernel
theorem d_Model_init_1021 : decode b_Model_init 1021 = .ok (.dup, 1) := by decide +kernel
theorem d_Model_init_1022 : decode b_Model_init 1022 = .ok (.bipush 21, 2) := by decide +kernel
theorem d_Model_init_1024 : decode b_Model_init 1024 = .ok (.sipush 731, 3) := by decide +kernel
theorem d_Model_init_1027 : decode b_Model_init 1027 = .ok (.iastore, 1) := by decide +kernel
theorem d_Model_init_1028 : decode b_Model_init 1028 = .ok (.dup, 1) := by decide +kernel
theorem d_Model_init_1029 : decode b_Model_init 1029 = .ok (.bipush 22, 2) := by decide +kernel
theorem d_Model_init_1031 : decode b_Model_init 1031 = .ok (.sipush 664, 3) := by decide +kernel
theorem d_Model_init_1034 : decode b_Model_init 1034 = .ok (.iastore, 1) := by decide +kernel
theorem d_Model_init_1035 : decode b_Model_init 1035 = .ok (.dup, 1) := by decide +kernel
theorem d_Model_init_1036 : decode b_Model_init 1036 = .ok (.bipush 23, 2) := by decide +kernel
theorem d_Model_init_1038 : decode b_Model_init 1038 = .ok (.sipush 665, 3) := by decide +kernel
theorem d_Model_init_1041 : decode b_Model_init 1041 = .ok (.iastore, 1) := by decide +kernel
theorem d_Model_init_1042 : decode b_Model_init 1042 = .ok (.dup, 1) := by decide +kernel
theorem d_Model_init_1043 : decode b_Model_init 1043 = .ok (.bipush 24, 2) := by decide +kernel
theorem d_Model_init_1045 : decode b_Model_init 1045 = .ok (.sipush 666, 3) := by decide +kernel
theorem d_Model_init_1048 : decode b_Model_init 1048 = .ok (.iastore, 1) := by decide +kernel
theorem d_Model_init_1049 : decode b_Model_init 1049 = .ok (.dup, 1) := by decide +kernel
theorem d_Model_init_1050 : decode b_Model_init 1050 = .ok (.bipush 25, 2) := by decide +kernel
theorem d_Model_init_1052 : decode b_Model_init 1052 = .ok (.bipush 88, 2) := by decide +kernel
theorem d_Model_init_1054 : decode b_Model_init 1054 = .ok (.iastore, 1) := by decide +kernel
theorem d_Model_init_1055 : decode b_Model_init 1055 = .ok (.dup, 1) := by decide +kernel
theorem d_Model_init_1056 : decode b_Model_init 1056 = .ok (.bipush 26, 2) := by decide +kernel
theorem d_Model_init_1058 : decode b_Model_init 1058 = .ok (.sipush 667, 3) := by decide +kernel
theorem d_Model_init_1061 : decode b_Model_init 1061 = .ok (.iastore, 1) := by decide +kernel
theorem d_Model_init_1062 : decode b_Model_init 1062 = .ok (.putfield 16, 3) := by decide +kernel
theorem d_Model_init_1065 : decode b_Model_init 1065 = .ok (.aload_n 0, 1) := by decide +kernel
theorem d_Model_init_1066 : decode b_Model_init 1066 = .ok (.bipush 27, 2) := by decide +kernel
theorem d_Model_init_1068 : decode b_Model_init 1068 = .ok (.newarray .int, 2) := by decide +kernel
theorem d_Model_init_1070 : decode b_Model_init 1070 = .ok (.dup, 1) := by decide +kernel
theorem d_Model_init_1071 : decode b_Model_init 1071 = .ok (.iconst 0, 1) := by decide +kernel
theorem d_Model_init_1072 : decode b_Model_init 1072 = .ok (.sipush 1039, 3) := by decide +kernel
theorem d_Model_init_1075 : decode b_Model_init 1075 = .ok (.iastore, 1) := by decide +kernel
theorem d_Model_init_1076 : decode b_Model_init 1076 = .ok (.dup, 1) := by decide +kernel
theorem d_Model_init_1077 : decode b_Model_init 1077 = .ok (.iconst 1, 1) := by decide +kernel
theorem d_Model_init_1078 : decode b_Model_init 1078 = .ok (.sipush 4296, 3) := by decide +kernel
theorem d_Model_init_1081 : decode b_Model_init 1081 = .ok (.iastore, 1) := by decide +kernel
theorem d_Model_init_1082 : decode b_Model_init 1082 = .ok (.dup, 1) := by decide +kernel
theorem d_Model_init_1083 : decode b_Model_init 1083 = .ok (.iconst 2, 1) := by decide +kernel
theorem d_Model_init_1084 : decode b_Model_init 1084 = .ok (.sipush 4297, 3) := by decide +kernel
theorem d_Model_init_1087 : decode b_Model_init 1087 = .ok (.iastore, 1) := by decide +kernel
theorem d_Model_init_1088 : decode b_Model_init 1088 = .ok (.dup, 1) := by decide +kernel
theorem d_Model_init_1089 : decode b_Model_init 1089 = .ok (.iconst 3, 1) := by decide +kernel
theorem d_Model_init_1090 : decode b_Model_init 1090 = .ok (.sipush 4187, 3) := by decide +kernel
theorem d_Model_init_1093 : decode b_Model_init 1093 = .ok (.iastore, 1) := by decide +kernel
theorem d_Model_init_1094 : decode b_Model_init 1094 = .ok (.dup, 1) := by decide +kernel
theorem d_Model_init_1095 : decode b_Model_init 1095 = .ok (.iconst 4, 1) := by decide +kernel
theorem d_Model_init_1096 : decode b_Model_init 1096 = .ok (.sipush 4147, 3) := by decide +kernel
theorem d_Model_init_1099 : decode b_Model_init 1099 = .ok (.iastore, 1) := by decide +kernel
theorem d_Model_init_1100 : decode b_Model_init 1100 = .ok (.dup, 1) := by decide +kernel
theorem d_Model_init_1101 : decode b_Model_init 1101 = .ok (.iconst 5, 1) := by decide +kernel
theorem d_Model_init_1102 : decode b_Model_init 1102 = .ok (.sipush 4148, 3) := by decide +kernel
theorem d_Model_init_1105 : decode b_Model_init 1105 = .ok (.iastore, 1) := by decide +kernel
theorem d_Model_init_1106 : decode b_Model_init 1106 = .ok (.dup, 1) := by decide +kernel
theorem d_Model_init_1107 : decode b_Model_init 1107 = .ok (.bipush 6, 2) := by decide +kernel
theorem d_Model_init_1109 : decode b_Model_init 1109 = .ok (.sipush 4149, 3) := by decide +kernel
theorem d_Model_init_1112 : decode b_Model_init 1112 = .ok (.iastore, 1) := by decide +kernel
theorem d_Model_init_1113 : decode b_Model_init 1113 = .ok (.dup, 1) := by decide +kernel
theorem d_Model_init_1114 : decode b_Model_init 1114 = .ok (.bipush 7, 2) := by decide +kernel
theorem d_Model_init_1116 : decode b_Model_init 1116 = .ok (.sipush 8300, 3) := by decide +kernel
theorem d_Model_init_1119 : decode b_Model_init 1119 = .ok (.iastore, 1) := by decide +kernel
theorem d_Model_init_1120 : decode b_Model_init 1120 = .ok (.dup, 1) := by decide +kernel
theorem d_Model_init_1121 : decode b_Model_init 1121 = .ok (.bipush 8, 2) := by decide +kernel
theorem d_Model_init_1123 : decode b_Model_init 1123 = .ok (.sipush 8301, 3) := by decide +kernel
theorem d_Model_init_1126 : decode b_Model_init 1126 = .ok (.iastore, 1) := by decide +kernel
theorem d_Model_init_1127 : decode b_Model_init 1127 = .ok (.dup, 1) := by decide +kernel
theorem d_Model_init_1128 : decode b_Model_init 1128 = .ok (.bipush 9, 2) := by decide +kernel
theorem d_Model_init_1130 : decode b_Model_init 1130 = .ok (.sipush 8266, 3) := by decide +kernel
theorem d_Model_init_1133 : decode b_Model_init 1133 = .ok (.iastore, 1) := by decide +kernel
theorem d_Model_init_1134 : decode b_Model_init 1134 = .ok (.dup, 1) := by decide +kernel
theorem d_Model_init_1135 : decode b_Model_init 1135 = .ok (.bipush 10, 2) := by decide +kernel
theorem d_Model_init_1137 : decode b_Model_init 1137 = .ok (.sipush 8267, 3) := by decide +kernel
theorem d_Model_init_1140 : decode b_Model_init 1140 = .ok (.iastore, 1) := by decide +kernel
theorem d_Model_init_1141 : decode b_Model_init 1141 = .ok (.dup, 1) := by decide +kernel
theorem d_Model_init_1142 : decode b_Model_init 1142 = .ok (.bipush 11, 2) := by decide +kernel
theorem d_Model_init_1144 : decode b_Model_init 1144 = .ok (.sipush 8268, 3) := by decide +kernel
theorem d_Model_init_1147 : decode b_Model_init 1147 = .ok (.iastore, 1) := by decide +kernel
theorem d_Model_init_1148 : decode b_Model_init 1148 = .ok (.dup, 1) := by decide +kernel
theorem d_Model_init_1149 : decode b_Model_init 1149 = .ok (.bipush 12, 2) := by decide +kernel
theorem d_Model_init_1151 : decode b_Model_init 1151 = .ok (.sipush 8269, 3) := by decide +kernel
theorem d_Model_init_1154 : decode b_Model_init 1154 = .ok (.iastore, 1) := by decide +kernel
theorem d_Model_init_1155 : decode b_Model_init 1155 = .ok (.dup, 1) := by decide +kernel
theorem d_Model_init_1156 : decode b_Model_init 1156 = .ok (.bipush 13, 2) := by decide +kernel
theorem d_Model_init_1158 : decode b_Model_init 1158 = .ok (.sipush 8306, 3) := by decide +kernel
theorem d_Model_init_1161 : decode b_Model_init 1161 = .ok (.iastore, 1) := by decide +kernel
theorem d_Model_init_1162 : decode b_Model_init 1162 = .ok (.dup, 1) := by decide +kernel
theorem d_Model_init_1163 : decode b_Model_init 1163 = .ok (.bipush 14, 2) := by decide +kernel
theorem d_Model_init_1165 : decode b_Model_init 1165 = .ok (.sipush 8307, 3) := by decide +kernel
theorem d_Model_init_1168 : decode b_Model_init 1168 = .ok (.iastore, 1) := by decide +kernel
theorem d_Model_init_1169 : decode b_Model_init 1169 = .ok (.dup, 1) := by decide +kernel
theorem d_Model_init_1170 : decode b_Model_init 1170 = .ok (.bipush 15, 2) := by decide +kernel
theorem d_Model_init_1172 : decode b_Model_init 1172 = .ok (.sipush 8308, 3) := by decide +kernel
theorem d_Model_init_1175 : decode b_Model_init 1175 = .ok (.iastore, 1) := by decide +kernel
theorem d_Model_init_1176 : decode b_Model_init 1176 = .ok (.dup, 1) := by decide +kernel
theorem d_Model_init_1177 : decode b_Model_init 1177 = .ok (.bipush 16, 2) := by decide +kernel
theorem d_Model_init_1179 : decode b_Model_init 1179 = .ok (.sipush 8309, 3) := by decide +kernel
theorem d_Model_init_1182 : decode b_Model_init 1182 = .ok (.iastore, 1) := by decide +kernel
theorem d_Model_init_1183 : decode b_Model_init 1183 = .ok (.dup, 1) := by decide +kernel
theorem d_Model_init_1184 : decode b_Model_init 1184 = .ok (.bipush 17, 2) := by decide +kernel
theorem d_Model_init_1186 : decode b_Model_init 1186 = .ok (.sipush 8310, 3) := by decide +kernel
theorem d_Model_init_1189 : decode b_Model_init 1189 = .ok (.iastore, 1) := by decide +kernel
theorem d_Model_init_1190 : decode b_Model_init 1190 = .ok (.dup, 1) := by decide +kernel
theorem d_Model_init_1191 : decode b_Model_init 1191 = .ok (.bipush 18, 2) := by decide +kernel
theorem d_Model_init_1193 : decode b_Model_init 1193 = .ok (.sipush 8311, 3) := by decide +kernel
theorem d_Model_init_1196 : decode b_Model_init 1196 = .ok (.iastore, 1) := by decide +kernel
theorem d_Model_init_1197 : decode b_Model_init 1197 = .ok (.dup, 1) := by decide +kernel
theorem d_Model_init_1198 : decode b_Model_init 1198 = .ok (.bipush 19, 2) := by decide +kernel
theorem d_Model_init_1200 : decode b_Model_init 1200 = .ok (.sipush 8274, 3) := by decide +kernel
theorem d_Model_init_1203 : decode b_Model_init 1203 = .ok (.iastore, 1) := by decide +kernel
theorem d_Model_init_1204 : decode b_Model_init 1204 = .ok (.dup, 1) := by decide +kernel
theorem d_Model_init_1205 : decode b_Model_init 1205 = .ok (.bipush 20, 2) := by decide +kernel
theorem d_Model_init_1207 : decode b_Model_init 1207 = .ok (.sipush 8275, 3) := by decide +kernel
theorem d_Model_init_1210 : decode b_Model_init 1210 = .ok (.iastore, 1) := by decide +kernel
theorem d_Model_init_1211 : decode b_Model_init 1211 = .ok (.dup, 1) := by decide +kernel
theorem d_Model_init_1212 : decode b_Model_init 1212 = .ok (.bipush 21, 2) := by decide +kernel
theorem d_Model_init_1214 : decode b_Model_init 1214 = .ok (.sipush 8276, 3) := by decide +kernel
theorem d_Model_init_1217 : decode b_Model_init 1217 = .ok (.iastore, 1) := by decide +kernel
theorem d_Model_init_1218 : decode b_Model_init 1218 = .ok (.dup, 1) := by decide +kernel
theorem d_Model_init_1219 : decode b_Model_init 1219 = .ok (.bipush 22, 2) := by decide +kernel
theorem d_Model_init_1221 : decode b_Model_init 1221 = .ok (.sipush 8277, 3) := by decide +kernel
theorem d_Model_init_1224 : decode b_Model_init 1224 = .ok (.iastore, 1) := by decide +kernel
theorem d_Model_init_1225 : decode b_Model_init 1225 = .ok (.dup, 1) := by decide +kernel
theorem d_Model_init_1226 : decode b_Model_init 1226 = .ok (.bipush 23, 2) := by decide +kernel
theorem d_Model_init_1228 : decode b_Model_init 1228 = .ok (.sipush 8282, 3) := by decide +kernel
theorem d_Model_init_1231 : decode b_Model_init 1231 = .ok (.iastore, 1) := by decide +kernel
theorem d_Model_init_1232 : decode b_Model_init 1232 = .ok (.dup, 1) := by decide +kernel
theorem d_Model_init_1233 : decode b_Model_init 1233 = .ok (.bipush 24, 2) := by decide +kernel
theorem d_Model_init_1235 : decode b_Model_init 1235 = .ok (.sipush 8283, 3) := by decide +kernel
theorem d_Model_init_1238 : decode b_Model_init 1238 = .ok (.iastore, 1) := by decide +kernel
theorem d_Model_init_1239 : decode b_Model_init 1239 = .ok (.dup, 1) := by decide +kernel
theorem d_Model_init_1240 : decode b_Model_init 1240 = .ok (.bipush 25, 2) := by decide +kernel
theorem d_Model_init_1242 : decode b_Model_init 1242 = .ok (.sipush 8292, 3) := by decide +kernel
theorem d_Model_init_1245 : decode b_Model_init 1245 = .ok (.iastore, 1) := by decide +kernel
theorem d_Model_init_1246 : decode b_Model_init 1246 = .ok (.dup, 1) := by decide +kernel
theorem d_Model_init_1247 : decode b_Model_init 1247 = .ok (.bipush 26, 2) := by decide +kernel
theorem d_Model_init_1249 : decode b_Model_init 1249 = .ok (.sipush 8293, 3) := by decide +kernel
theorem d_Model_init_1252 : decode b_Model_init 1252 = .ok (.iastore, 1) := by decide +kernel
theorem d_Model_init_1253 : decode b_Model_init 1253 = .ok (.putfield 19, 3) := by decide +kernel
theorem d_Model_init_1256 : decode b_Model_init 1256 = .ok (.aload_n 0, 1) := by decide +kernel
theorem d_Model_init_1257 : decode b_Model_init 1257 = .ok (.bipush 13, 2) := by decide +kernel
theorem d_Model_init_1259 : decode b_Model_init 1259 = .ok (.newarray .int, 2) := by decide +kernel
theorem d_Model_init_1261 : decode b_Model_init 1261 = .ok (.dup, 1) := by decide +kernel
theorem d_Model_init_1262 : decode b_Model_init 1262 = .ok (.iconst 0, 1) := by decide +kernel
theorem d_Model_init_1263 : decode b_Model_init 1263 = .ok (.sipush 2056, 3) := by decide +kernel
theorem d_Model_init_1266 : decode b_Model_init 1266 = .ok (.iastore, 1) := by decide +kernel
theorem d_Model_init_1267 : decode b_Model_init 1267 = .ok (.dup, 1) := by decide +kernel
theorem d_Model_init_1268 : decode b_Model_init 1268 = .ok (.iconst 1, 1) := by decide +kernel
theorem d_Model_init_1269 : decode b_Model_init 1269 = .ok (.sipush 2060, 3) := by decide +kernel
theorem d_Model_init_1272 : decode b_Model_init 1272 = .ok (.iastore, 1) := by decide +kernel
theorem d_Model_init_1273 : decode b_Model_init 1273 = .ok (.dup, 1) := by decide +kernel
theorem d_Model_init_1274 : decode b_Model_init 1274 = .ok (.iconst 2, 1) := by decide +kernel
theorem d_Model_init_1275 : decode b_Model_init 1275 = .ok (.sipush 2061, 3) := by decide +kernel
theorem d_Model_init_1278 : decode b_Model_init 1278 = .ok (.iastore, 1) := by decide +kernel
theorem d_Model_init_1279 : decode b_Model_init 1279 = .ok (.dup, 1) := by decide +kernel
theorem d_Model_init_1280 : decode b_Model_init 1280 = .ok (.iconst 3, 1) := by decide +kernel
theorem d_Model_init_1281 : decode b_Model_init 1281 = .ok (.sipush 4114, 3) := by decide +kernel
theorem d_Model_init_1284 : decode b_Model_init 1284 = .ok (.iastore, 1) := by decide +kernel
theorem d_Model_init_1285 : decode b_Model_init 1285 = .ok (.dup, 1) := by decide +kernel
theorem d_Model_init_1286 : decode b_Model_init 1286 = .ok (.iconst 4, 1) := by decide +kernel
theorem d_Model_init_1287 : decode b_Model_init 1287 = .ok (.sipush 4115, 3) := by decide +kernel
theorem d_Model_init_1290 : decode b_Model_init 1290 = .ok (.iastore, 1) := by decide +kernel
theorem d_Model_init_1291 : decode b_Model_init 1291 = .ok (.dup, 1) := by decide +kernel
theorem d_Model_init_1292 : decode b_Model_init 1292 = .ok (.iconst 5, 1) := by decide +kernel
theorem d_Model_init_1293 : decode b_Model_init 1293 = .ok (.sipush 4116, 3) := by decide +kernel
theorem d_Model_init_1296 : decode b_Model_init 1296 = .ok (.iastore, 1) := by decide +kernel
theorem d_Model_init_1297 : decode b_Model_init 1297 = .ok (.dup, 1) := by decide +kernel
theorem d_Model_init_1298 : decode b_Model_init 1298 = .ok (.bipush 6, 2) := by decide +kernel
theorem d_Model_init_1300 : decode b_Model_init 1300 = .ok (.sipush 4117, 3) := by decide +kernel
theorem d_Model_init_1303 : decode b_Model_init 1303 = .ok (.iastore, 1) := by decide +kernel
theorem d_Model_init_1304 : decode b_Model_init 1304 = .ok (.dup, 1) := by decide +kernel
theorem d_Model_init_1305 : decode b_Model_init 1305 = .ok (.bipush 7, 2) := by decide +kernel
theorem d_Model_init_1307 : decode b_Model_init 1307 = .ok (.sipush 4118, 3) := by decide +kernel
theorem d_Model_init_1310 : decode b_Model_init 1310 = .ok (.iastore, 1) := by decide +kernel
theorem d_Model_init_1311 : decode b_Model_init 1311 = .ok (.dup, 1) := by decide +kernel
theorem d_Model_init_1312 : decode b_Model_init 1312 = .ok (.bipush 8, 2) := by decide +kernel
theorem d_Model_init_1314 : decode b_Model_init 1314 = .ok (.sipush 4119, 3) := by decide +kernel
theorem d_Model_init_1317 : decode b_Model_init 1317 = .ok (.iastore, 1) := by decide +kernel
theorem d_Model_init_1318 : decode b_Model_init 1318 = .ok (.dup, 1) := by decide +kernel
theorem d_Model_init_1319 : decode b_Model_init 1319 = .ok (.bipush 9, 2) := by decide +kernel
theorem d_Model_init_1321 : decode b_Model_init 1321 = .ok (.sipush 4124, 3) := by decide +kernel
theorem d_Model_init_1324 : decode b_Model_init 1324 = .ok (.iastore, 1) := by decide +kernel
theorem d_Model_init_1325 : decode b_Model_init 1325 = .ok (.dup, 1) := by decide +kernel
theorem d_Model_init_1326 : decode b_Model_init 1326 = .ok (.bipush 10, 2) := by decide +kernel
theorem d_Model_init_1328 : decode b_Model_init 1328 = .ok (.sipush 4125, 3) := by decide +kernel
theorem d_Model_init_1331 : decode b_Model_init 1331 = .ok (.iastore, 1) := by decide +kernel
theorem d_Model_init_1332 : decode b_Model_init 1332 = .ok (.dup, 1) := by decide +kernel
theorem d_Model_init_1333 : decode b_Model_init 1333 = .ok (.bipush 11, 2) := by decide +kernel
theorem d_Model_init_1335 : decode b_Model_init 1335 = .ok (.sipush 4126, 3) := by decide +kernel
theorem d_Model_init_1338 : decode b_Model_init 1338 = .ok (.iastore, 1) := by decide +kernel
theorem d_Model_init_1339 : decode b_Model_init 1339 = .ok (.dup, 1) := by decide +kernel
theorem d_Model_init_1340 : decode b_Model_init 1340 = .ok (.bipush 12, 2) := by decide +kernel
theorem d_Model_init_1342 : decode b_Model_init 1342 = .ok (.sipush 4127, 3) := by decide +kernel
theorem d_Model_init_1345 : decode b_Model_init 1345 = .ok (.iastore, 1) := by decide +kernel
theorem d_Model_init_1346 : decode b_Model_init 1346 = .ok (.putfield 22, 3) := by decide +kernel
theorem d_Model_init_1349 : decode b_Model_init 1349 = .ok (.aload_n 0, 1) := by decide +kernel
theorem d_Model_init_1350 : decode b_Model_init 1350 = .ok (.bipush 10, 2) := by decide +kernel
theorem d_Model_init_1352 : decode b_Model_init 1352 = .ok (.newarray .int, 2) := by decide +kernel
theorem d_Model_init_1354 : decode b_Model_init 1354 = .ok (.dup, 1) := by decide +kernel
theorem d_Model_init_1355 : decode b_Model_init 1355 = .ok (.iconst 0, 1) := by decide +kernel
theorem d_Model_init_1356 : decode b_Model_init 1356 = .ok (.bipush 17, 2) := by decide +kernel
theorem d_Model_init_1358 : decode b_Model_init 1358 = .ok (.iastore, 1) := by decide +kernel
theorem d_Model_init_1359 : decode b_Model_init 1359 = .ok (.dup, 1) := by decide +kernel
theorem d_Model_init_1360 : decode b_Model_init 1360 = .ok (.iconst 1, 1) := by decide +kernel
theorem d_Model_init_1361 : decode b_Model_init 1361 = .ok (.bipush 9, 2) := by decide +kernel
theorem d_Model_init_1363 : decode b_Model_init 1363 = .ok (.iastore, 1) := by decide +kernel
theorem d_Model_init_1364 : decode b_Model_init 1364 = .ok (.dup, 1) := by decide +kernel
theorem d_Model_init_1365 : decode b_Model_init 1365 = .ok (.iconst 2, 1) := by decide +kernel
theorem d_Model_init_1366 : decode b_Model_init 1366 = .ok (.sipush 130, 3) := by decide +kernel
theorem d_Model_init_1369 : decode b_Model_init 1369 = .ok (.iastore, 1) := by decide +kernel
theorem d_Model_init_1370 : decode b_Model_init 1370 = .ok (.dup, 1) := by decide +kernel
theorem d_Model_init_1371 : decode b_Model_init 1371 = .ok (.iconst 3, 1) := by decide +kernel
theorem d_Model_init_1372 : decode b_Model_init 1372 = .ok (.bipush 66, 2) := by decide +kernel
theorem d_Model_init_1374 : decode b_Model_init 1374 = .ok (.iastore, 1) := by decide +kernel
theorem d_Model_init_1375 : decode b_Model_init 1375 = .ok (.dup, 1) := by decide +kernel
theorem d_Model_init_1376 : decode b_Model_init 1376 = .ok (.iconst 4, 1) := by decide +kernel
theorem d_Model_init_1377 : decode b_Model_init 1377 = .ok (.bipush 10, 2) := by decide +kernel
theorem d_Model_init_1379 : decode b_Model_init 1379 = .ok (.iastore, 1) := by decide +kernel
theorem d_Model_init_1380 : decode b_Model_init 1380 = .ok (.dup, 1) := by decide +kernel
theorem d_Model_init_1381 : decode b_Model_init 1381 = .ok (.iconst 5, 1) := by decide +kernel
theorem d_Model_init_1382 : decode b_Model_init 1382 = .ok (.iconst 3, 1) := by decide +kernel
theorem d_Model_init_1383 : decode b_Model_init 1383 = .ok (.iastore, 1) := by decide +kernel
theorem d_Model_init_1384 : decode b_Model_init 1384 = .ok (.dup, 1) := by decide +kernel
theorem d_Model_init_1385 : decode b_Model_init 1385 = .ok (.bipush 6, 2) := by decide +kernel
theorem d_Model_init_1387 : decode b_Model_init 1387 = .ok (.bipush 11, 2) := by decide +kernel
theorem d_Model_init_1389 : decode b_Model_init 1389 = .ok (.iastore, 1) := by decide +kernel
theorem d_Model_init_1390 : decode b_Model_init 1390 = .ok (.dup, 1) := by decide +kernel
theorem d_Model_init_1391 : decode b_Model_init 1391 = .ok (.bipush 7, 2) := by decide +kernel
theorem d_Model_init_1393 : decode b_Model_init 1393 = .ok (.bipush 67, 2) := by decide +kernel
theorem d_Model_init_1395 : decode b_Model_init 1395 = .ok (.iastore, 1) := by decide +kernel
theorem d_Model_init_1396 : decode b_Model_init 1396 = .ok (.dup, 1) := by decide +kernel
theorem d_Model_init_1397 : decode b_Model_init 1397 = .ok (.bipush 8, 2) := by decide +kernel
theorem d_Model_init_1399 : decode b_Model_init 1399 = .ok (.sipush 131, 3) := by decide +kernel
theorem d_Model_init_1402 : decode b_Model_init 1402 = .ok (.iastore, 1) := by decide +kernel
theorem d_Model_init_1403 : decode b_Model_init 1403 = .ok (.dup, 1) := by decide +kernel
theorem d_Model_init_1404 : decode b_Model_init 1404 = .ok (.bipush 9, 2) := by decide +kernel
theorem d_Model_init_1406 : decode b_Model_init 1406 = .ok (.sipush 4097, 3) := by decide +kernel
theorem d_Model_init_1409 : decode b_Model_init 1409 = .ok (.iastore, 1) := by decide +kernel
theorem d_Model_init_1410 : decode b_Model_init 1410 = .ok (.putfield 25, 3) := by decide +kernel
theorem d_Model_init_1413 : decode b_Model_init 1413 = .ok (.aload_n 0, 1) := by decide +kernel
theorem d_Model_init_1414 : decode b_Model_init 1414 = .ok (.ldc 28, 2) := by decide +kernel
theorem d_Model_init_1416 : decode b_Model_init 1416 = .ok (.newarray .boolean, 2) := by decide +kernel
theorem d_Model_init_1418 : decode b_Model_init 1418 = .ok (.putfield 29, 3) := by decide +kernel
theorem d_Model_init_1421 : decode b_Model_init 1421 = .ok (.aload_n 0, 1) := by decide +kernel
theorem d_Model_init_1422 : decode b_Model_init 1422 = .ok (.ldc 33, 2) := by decide +kernel
theorem d_Model_init_1424 : decode b_Model_init 1424 = .ok (.newarray .boolean, 2) := by decide +kernel
theorem d_Model_init_1426 : decode b_Model_init 1426 = .ok (.putfield 34, 3) := by decide +kernel
theorem d_Model_init_1429 : decode b_Model_init 1429 = .ok (.aload_n 0, 1) := by decide +kernel
theorem d_Model_init_1430 : decode b_Model_init 1430 = .ok (.ldc 37, 2) := by decide +kernel
theorem d_Model_init_1432 : decode b_Model_init 1432 = .ok (.newarray .int, 2) := by decide +kernel
theorem d_Model_init_1434 : decode b_Model_init 1434 = .ok (.putfield 38, 3) := by decide +kernel
theorem d_Model_init_1437 : decode b_Model_init 1437 = .ok (.aload_n 0, 1) := by decide +kernel
theorem d_Model_init_1438 : decode b_Model_init 1438 = .ok (.iload_n 1, 1) := by decide +kernel
theorem d_Model_init_1439 : decode b_Model_init 1439 = .ok (.iconst 1, 1) := by decide +kernel
theorem d_Model_init_1440 : decode b_Model_init 1440 = .ok (.if_icmp .ge 7, 3) := by decide +kernel
theorem d_Model_init_1443 : decode b_Model_init 1443 = .ok (.iconst 1, 1) := by decide +kernel
theorem d_Model_init_1444 : decode b_Model_init 1444 = .ok (.goto 17, 3) := by decide +kernel
theorem d_Model_init_1447 : decode b_Model_init 1447 = .ok (.iload_n 1, 1) := by decide +kernel
theorem d_Model_init_1448 : decode b_Model_init 1448 = .ok (.sipush 10000, 3) := by decide +kernel
theorem d_Model_init_1451 : decode b_Model_init 1451 = .ok (.if_icmp .le 9, 3) := by decide +kernel
theorem d_Model_init_1454 : decode b_Model_init 1454 = .ok (.sipush 10000, 3) := by decide +kernel
theorem d_Model_init_1457 : decode b_Model_init 1457 = .ok (.goto 4, 3) := by decide +kernel
theorem d_Model_init_1460 : decode b_Model_init 1460 = .ok (.iload_n 1, 1) := by decide +kernel
theorem d_Model_init_1461 : decode b_Model_init 1461 = .ok (.putfield 41, 3) := by decide +kernel
theorem d_Model_init_1464 : decode b_Model_init 1464 = .ok (.aload_n 0, 1) := by decide +kernel
theorem d_Model_init_1465 : decode b_Model_init 1465 = .ok (.aload_n 0, 1) := by decide +kernel
theorem d_Model_init_1466 : decode b_Model_init 1466 = .ok (.getfield 41, 3) := by decide +kernel
theorem d_Model_init_1469 : decode b_Model_init 1469 = .ok (.newarray .boolean, 2) := by decide +kernel
theorem d_Model_init_1471 : decode b_Model_init 1471 = .ok (.putfield 45, 3) := by decide +kernel
theorem d_Model_init_1474 : decode b_Model_init 1474 = .ok (.aload_n 0, 1) := by decide +kernel
theorem d_Model_init_1475 : decode b_Model_init 1475 = .ok (.aload_n 0, 1) := by decide +kernel
theorem d_Model_init_1476 : decode b_Model_init 1476 = .ok (.getfield 41, 3) := by decide +kernel
theorem d_Model_init_1479 : decode b_Model_init 1479 = .ok (.newarray .boolean, 2) := by decide +kernel
theorem d_Model_init_1481 : decode b_Model_init 1481 = .ok (.putfield 48, 3) := by decide +kernel
theorem d_Model_init_1484 : decode b_Model_init 1484 = .ok (.aload_n 0, 1) := by decide +kernel
theorem d_Model_init_1485 : decode b_Model_init 1485 = .ok (.aload_n 0, 1) := by decide +kernel
theorem d_Model_init_1486 : decode b_Model_init 1486 = .ok (.getfield 41, 3) := by decide +kernel
theorem d_Model_init_1489 : decode b_Model_init 1489 = .ok (.newarray .boolean, 2) := by decide +kernel
theorem d_Model_init_1491 : decode b_Model_init 1491 = .ok (.putfield 51, 3) := by decide +kernel
theorem d_Model_init_1494 : decode b_Model_init 1494 = .ok (.aload_n 0, 1) := by decide +kernel
theorem d_Model_init_1495 : decode b_Model_init 1495 = .ok (.aload_n 0, 1) := by decide +kernel
theorem d_Model_init_1496 : decode b_Model_init 1496 = .ok (.getfield 41, 3) := by decide +kernel
theorem d_Model_init_1499 : decode b_Model_init 1499 = .ok (.newarray .boolean, 2) := by decide +kernel
theorem d_Model_init_1501 : decode b_Model_init 1501 = .ok (.putfield 54, 3) := by decide +kernel
theorem d_Model_init_1504 : decode b_Model_init 1504 = .ok (.aload_n 0, 1) := by decide +kernel
theorem d_Model_init_1505 : decode b_Model_init 1505 = .ok (.iconst 1, 1) := by decide +kernel
theorem d_Model_init_1506 : decode b_Model_init 1506 = .ok (.putfield 57, 3) := by decide +kernel
theorem d_Model_init_1509 : decode b_Model_init 1509 = .ok (.return_, 1) := by decide +kernel
