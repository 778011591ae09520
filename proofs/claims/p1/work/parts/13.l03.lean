theorem kd_W_law_839 : decode kc_W_law 839 = .ok (.iadd, 1) := by decide +kernel
theorem kd_W_law_840 : decode kc_W_law 840 = .ok (.iaload, 1) := by decide +kernel
theorem kd_W_law_841 : decode kc_W_law 841 = .ok (.aload_n 0, 1) := by decide +kernel
theorem kd_W_law_842 : decode kc_W_law 842 = .ok (.iload 4, 2) := by decide +kernel
theorem kd_W_law_844 : decode kc_W_law 844 = .ok (.iconst 4, 1) := by decide +kernel
theorem kd_W_law_845 : decode kc_W_law 845 = .ok (.iadd, 1) := by decide +kernel
theorem kd_W_law_846 : decode kc_W_law 846 = .ok (.iaload, 1) := by decide +kernel
theorem kd_W_law_847 : decode kc_W_law 847 = .ok (.aload_n 3, 1) := by decide +kernel
theorem kd_W_law_848 : decode kc_W_law 848 = .ok (.invokestatic 142, 3) := by decide +kernel
theorem kd_W_law_851 : decode kc_W_law 851 = .ok (.istore 5, 2) := by decide +kernel
theorem kd_W_law_853 : decode kc_W_law 853 = .ok (.aload_n 2, 1) := by decide +kernel
theorem kd_W_law_854 : decode kc_W_law 854 = .ok (.aload_n 0, 1) := by decide +kernel
theorem kd_W_law_855 : decode kc_W_law 855 = .ok (.iload 4, 2) := by decide +kernel
theorem kd_W_law_857 : decode kc_W_law 857 = .ok (.iconst 1, 1) := by decide +kernel
theorem kd_W_law_858 : decode kc_W_law 858 = .ok (.iadd, 1) := by decide +kernel
theorem kd_W_law_859 : decode kc_W_law 859 = .ok (.iaload, 1) := by decide +kernel
theorem kd_W_law_860 : decode kc_W_law 860 = .ok (.aload_n 0, 1) := by decide +kernel
theorem kd_W_law_861 : decode kc_W_law 861 = .ok (.iload 4, 2) := by decide +kernel
theorem kd_W_law_863 : decode kc_W_law 863 = .ok (.iconst 2, 1) := by decide +kernel
theorem kd_W_law_864 : decode kc_W_law 864 = .ok (.iadd, 1) := by decide +kernel
theorem kd_W_law_865 : decode kc_W_law 865 = .ok (.iaload, 1) := by decide +kernel
theorem kd_W_law_866 : decode kc_W_law 866 = .ok (.aload_n 0, 1) := by decide +kernel
theorem kd_W_law_867 : decode kc_W_law 867 = .ok (.iload 4, 2) := by decide +kernel
theorem kd_W_law_869 : decode kc_W_law 869 = .ok (.iconst 3, 1) := by decide +kernel
theorem kd_W_law_870 : decode kc_W_law 870 = .ok (.iadd, 1) := by decide +kernel
theorem kd_W_law_871 : decode kc_W_law 871 = .ok (.iaload, 1) := by decide +kernel
theorem kd_W_law_872 : decode kc_W_law 872 = .ok (.aload_n 0, 1) := by decide +kernel
theorem kd_W_law_873 : decode kc_W_law 873 = .ok (.iload 4, 2) := by decide +kernel
theorem kd_W_law_875 : decode kc_W_law 875 = .ok (.iconst 4, 1) := by decide +kernel
theorem kd_W_law_876 : decode kc_W_law 876 = .ok (.iadd, 1) := by decide +kernel
theorem kd_W_law_877 : decode kc_W_law 877 = .ok (.iaload, 1) := by decide +kernel
theorem kd_W_law_878 : decode kc_W_law 878 = .ok (.invokevirtual 144, 3) := by decide +kernel
theorem kd_W_law_881 : decode kc_W_law 881 = .ok (.istore 6, 2) := by decide +kernel
theorem kd_W_law_883 : decode kc_W_law 883 = .ok (.aload_n 2, 1) := by decide +kernel
theorem kd_W_law_884 : decode kc_W_law 884 = .ok (.invokevirtual 113, 3) := by decide +kernel
theorem kd_W_law_887 : decode kc_W_law 887 = .ok (.iload 5, 2) := by decide +kernel
theorem kd_W_law_889 : decode kc_W_law 889 = .ok (.if_icmp .eq 5, 3) := by decide +kernel
theorem kd_W_law_892 : decode kc_W_law 892 = .ok (.iconst 0, 1) := by decide +kernel
theorem kd_W_law_893 : decode kc_W_law 893 = .ok (.ireturn, 1) := by decide +kernel
theorem kd_W_law_894 : decode kc_W_law 894 = .ok (.iload 5, 2) := by decide +kernel
theorem kd_W_law_896 : decode kc_W_law 896 = .ok (.ifCond .ne 15, 3) := by decide +kernel
theorem kd_W_law_899 : decode kc_W_law 899 = .ok (.aload_n 3, 1) := by decide +kernel
theorem kd_W_law_900 : decode kc_W_law 900 = .ok (.iconst 0, 1) := by decide +kernel
theorem kd_W_law_901 : decode kc_W_law 901 = .ok (.laload, 1) := by decide +kernel
theorem kd_W_law_902 : decode kc_W_law 902 = .ok (.iload 6, 2) := by decide +kernel
theorem kd_W_law_904 : decode kc_W_law 904 = .ok (.i2l, 1) := by decide +kernel
theorem kd_W_law_905 : decode kc_W_law 905 = .ok (.lcmp, 1) := by decide +kernel
theorem kd_W_law_906 : decode kc_W_law 906 = .ok (.ifCond .eq 5, 3) := by decide +kernel
theorem kd_W_law_909 : decode kc_W_law 909 = .ok (.iconst 0, 1) := by decide +kernel
theorem kd_W_law_910 : decode kc_W_law 910 = .ok (.ireturn, 1) := by decide +kernel
theorem kd_W_law_911 : decode kc_W_law 911 = .ok (.goto 1102, 3) := by decide +kernel
theorem kd_W_law_914 : decode kc_W_law 914 = .ok (.aload_n 1, 1) := by decide +kernel
theorem kd_W_law_915 : decode kc_W_law 915 = .ok (.aload_n 0, 1) := by decide +kernel
theorem kd_W_law_916 : decode kc_W_law 916 = .ok (.iload 4, 2) := by decide +kernel
theorem kd_W_law_918 : decode kc_W_law 918 = .ok (.iconst 1, 1) := by decide +kernel
theorem kd_W_law_919 : decode kc_W_law 919 = .ok (.iadd, 1) := by decide +kernel
theorem kd_W_law_920 : decode kc_W_law 920 = .ok (.iaload, 1) := by decide +kernel
theorem kd_W_law_921 : decode kc_W_law 921 = .ok (.aload_n 0, 1) := by decide +kernel
theorem kd_W_law_922 : decode kc_W_law 922 = .ok (.iload 4, 2) := by decide +kernel
theorem kd_W_law_924 : decode kc_W_law 924 = .ok (.iconst 2, 1) := by decide +kernel
theorem kd_W_law_925 : decode kc_W_law 925 = .ok (.iadd, 1) := by decide +kernel
theorem kd_W_law_926 : decode kc_W_law 926 = .ok (.iaload, 1) := by decide +kernel
theorem kd_W_law_927 : decode kc_W_law 927 = .ok (.invokestatic 145, 3) := by decide +kernel
theorem kd_W_law_930 : decode kc_W_law 930 = .ok (.istore 5, 2) := by decide +kernel
theorem kd_W_law_932 : decode kc_W_law 932 = .ok (.aload_n 2, 1) := by decide +kernel
theorem kd_W_law_933 : decode kc_W_law 933 = .ok (.aload_n 0, 1) := by decide +kernel
theorem kd_W_law_934 : decode kc_W_law 934 = .ok (.iload 4, 2) := by decide +kernel
theorem kd_W_law_936 : decode kc_W_law 936 = .ok (.iconst 1, 1) := by decide +kernel
theorem kd_W_law_937 : decode kc_W_law 937 = .ok (.iadd, 1) := by decide +kernel
theorem kd_W_law_938 : decode kc_W_law 938 = .ok (.iaload, 1) := by decide +kernel
theorem kd_W_law_939 : decode kc_W_law 939 = .ok (.aload_n 0, 1) := by decide +kernel
theorem kd_W_law_940 : decode kc_W_law 940 = .ok (.iload 4, 2) := by decide +kernel
theorem kd_W_law_942 : decode kc_W_law 942 = .ok (.iconst 2, 1) := by decide +kernel
theorem kd_W_law_943 : decode kc_W_law 943 = .ok (.iadd, 1) := by decide +kernel
theorem kd_W_law_944 : decode kc_W_law 944 = .ok (.iaload, 1) := by decide +kernel
theorem kd_W_law_945 : decode kc_W_law 945 = .ok (.invokevirtual 148, 3) := by decide +kernel
theorem kd_W_law_948 : decode kc_W_law 948 = .ok (.aload_n 2, 1) := by decide +kernel
theorem kd_W_law_949 : decode kc_W_law 949 = .ok (.invokevirtual 113, 3) := by decide +kernel
theorem kd_W_law_952 : decode kc_W_law 952 = .ok (.iload 5, 2) := by decide +kernel
theorem kd_W_law_954 : decode kc_W_law 954 = .ok (.if_icmp .eq 5, 3) := by decide +kernel
theorem kd_W_law_957 : decode kc_W_law 957 = .ok (.iconst 0, 1) := by decide +kernel
theorem kd_W_law_958 : decode kc_W_law 958 = .ok (.ireturn, 1) := by decide +kernel
theorem kd_W_law_959 : decode kc_W_law 959 = .ok (.goto 1054, 3) := by decide +kernel
theorem kd_W_law_962 : decode kc_W_law 962 = .ok (.aload_n 1, 1) := by decide +kernel
theorem kd_W_law_963 : decode kc_W_law 963 = .ok (.aload_n 0, 1) := by decide +kernel
theorem kd_W_law_964 : decode kc_W_law 964 = .ok (.iload 4, 2) := by decide +kernel
theorem kd_W_law_966 : decode kc_W_law 966 = .ok (.iconst 1, 1) := by decide +kernel
theorem kd_W_law_967 : decode kc_W_law 967 = .ok (.iadd, 1) := by decide +kernel
theorem kd_W_law_968 : decode kc_W_law 968 = .ok (.iaload, 1) := by decide +kernel
theorem kd_W_law_969 : decode kc_W_law 969 = .ok (.aload_n 0, 1) := by decide +kernel
theorem kd_W_law_970 : decode kc_W_law 970 = .ok (.iload 4, 2) := by decide +kernel
theorem kd_W_law_972 : decode kc_W_law 972 = .ok (.iconst 2, 1) := by decide +kernel
theorem kd_W_law_973 : decode kc_W_law 973 = .ok (.iadd, 1) := by decide +kernel
theorem kd_W_law_974 : decode kc_W_law 974 = .ok (.iaload, 1) := by decide +kernel
theorem kd_W_law_975 : decode kc_W_law 975 = .ok (.aload_n 0, 1) := by decide +kernel
theorem kd_W_law_976 : decode kc_W_law 976 = .ok (.iload 4, 2) := by decide +kernel
theorem kd_W_law_978 : decode kc_W_law 978 = .ok (.iconst 3, 1) := by decide +kernel
theorem kd_W_law_979 : decode kc_W_law 979 = .ok (.iadd, 1) := by decide +kernel
theorem kd_W_law_980 : decode kc_W_law 980 = .ok (.iaload, 1) := by decide +kernel
theorem kd_W_law_981 : decode kc_W_law 981 = .ok (.invokestatic 149, 3) := by decide +kernel
theorem kd_W_law_984 : decode kc_W_law 984 = .ok (.istore 5, 2) := by decide +kernel
theorem kd_W_law_986 : decode kc_W_law 986 = .ok (.aload_n 2, 1) := by decide +kernel
theorem kd_W_law_987 : decode kc_W_law 987 = .ok (.aload_n 0, 1) := by decide +kernel
theorem kd_W_law_988 : decode kc_W_law 988 = .ok (.iload 4, 2) := by decide +kernel
theorem kd_W_law_990 : decode kc_W_law 990 = .ok (.iconst 1, 1) := by decide +kernel
theorem kd_W_law_991 : decode kc_W_law 991 = .ok (.iadd, 1) := by decide +kernel
theorem kd_W_law_992 : decode kc_W_law 992 = .ok (.iaload, 1) := by decide +kernel
theorem kd_W_law_993 : decode kc_W_law 993 = .ok (.aload_n 0, 1) := by decide +kernel
theorem kd_W_law_994 : decode kc_W_law 994 = .ok (.iload 4, 2) := by decide +kernel
theorem kd_W_law_996 : decode kc_W_law 996 = .ok (.iconst 2, 1) := by decide +kernel
theorem kd_W_law_997 : decode kc_W_law 997 = .ok (.iadd, 1) := by decide +kernel
theorem kd_W_law_998 : decode kc_W_law 998 = .ok (.iaload, 1) := by decide +kernel
theorem kd_W_law_999 : decode kc_W_law 999 = .ok (.aload_n 0, 1) := by decide +kernel
theorem kd_W_law_1000 : decode kc_W_law 1000 = .ok (.iload 4, 2) := by decide +kernel
theorem kd_W_law_1002 : decode kc_W_law 1002 = .ok (.iconst 3, 1) := by decide +kernel
theorem kd_W_law_1003 : decode kc_W_law 1003 = .ok (.iadd, 1) := by decide +kernel
theorem kd_W_law_1004 : decode kc_W_law 1004 = .ok (.iaload, 1) := by decide +kernel
theorem kd_W_law_1005 : decode kc_W_law 1005 = .ok (.invokevirtual 152, 3) := by decide +kernel
theorem kd_W_law_1008 : decode kc_W_law 1008 = .ok (.aload_n 2, 1) := by decide +kernel
theorem kd_W_law_1009 : decode kc_W_law 1009 = .ok (.invokevirtual 113, 3) := by decide +kernel
theorem kd_W_law_1012 : decode kc_W_law 1012 = .ok (.iload 5, 2) := by decide +kernel
theorem kd_W_law_1014 : decode kc_W_law 1014 = .ok (.if_icmp .eq 5, 3) := by decide +kernel
theorem kd_W_law_1017 : decode kc_W_law 1017 = .ok (.iconst 0, 1) := by decide +kernel
theorem kd_W_law_1018 : decode kc_W_law 1018 = .ok (.ireturn, 1) := by decide +kernel
theorem kd_W_law_1019 : decode kc_W_law 1019 = .ok (.goto 994, 3) := by decide +kernel
theorem kd_W_law_1022 : decode kc_W_law 1022 = .ok (.aload_n 1, 1) := by decide +kernel
theorem kd_W_law_1023 : decode kc_W_law 1023 = .ok (.aload_n 0, 1) := by decide +kernel
theorem kd_W_law_1024 : decode kc_W_law 1024 = .ok (.iload 4, 2) := by decide +kernel
theorem kd_W_law_1026 : decode kc_W_law 1026 = .ok (.iconst 1, 1) := by decide +kernel
theorem kd_W_law_1027 : decode kc_W_law 1027 = .ok (.iadd, 1) := by decide +kernel
theorem kd_W_law_1028 : decode kc_W_law 1028 = .ok (.iaload, 1) := by decide +kernel
theorem kd_W_law_1029 : decode kc_W_law 1029 = .ok (.aload_n 0, 1) := by decide +kernel
theorem kd_W_law_1030 : decode kc_W_law 1030 = .ok (.iload 4, 2) := by decide +kernel
theorem kd_W_law_1032 : decode kc_W_law 1032 = .ok (.iconst 2, 1) := by decide +kernel
theorem kd_W_law_1033 : decode kc_W_law 1033 = .ok (.iadd, 1) := by decide +kernel
theorem kd_W_law_1034 : decode kc_W_law 1034 = .ok (.iaload, 1) := by decide +kernel
theorem kd_W_law_1035 : decode kc_W_law 1035 = .ok (.aload_n 3, 1) := by decide +kernel
theorem kd_W_law_1036 : decode kc_W_law 1036 = .ok (.invokestatic 153, 3) := by decide +kernel
theorem kd_W_law_1039 : decode kc_W_law 1039 = .ok (.istore 5, 2) := by decide +kernel
theorem kd_W_law_1041 : decode kc_W_law 1041 = .ok (.aload_n 2, 1) := by decide +kernel
theorem kd_W_law_1042 : decode kc_W_law 1042 = .ok (.aload_n 0, 1) := by decide +kernel
theorem kd_W_law_1043 : decode kc_W_law 1043 = .ok (.iload 4, 2) := by decide +kernel
theorem kd_W_law_1045 : decode kc_W_law 1045 = .ok (.iconst 1, 1) := by decide +kernel
theorem kd_W_law_1046 : decode kc_W_law 1046 = .ok (.iadd, 1) := by decide +kernel
theorem kd_W_law_1047 : decode kc_W_law 1047 = .ok (.iaload, 1) := by decide +kernel
theorem kd_W_law_1048 : decode kc_W_law 1048 = .ok (.aload_n 0, 1) := by decide +kernel
theorem kd_W_law_1049 : decode kc_W_law 1049 = .ok (.iload 4, 2) := by decide +kernel
theorem kd_W_law_1051 : decode kc_W_law 1051 = .ok (.iconst 2, 1) := by decide +kernel
theorem kd_W_law_1052 : decode kc_W_law 1052 = .ok (.iadd, 1) := by decide +kernel
theorem kd_W_law_1053 : decode kc_W_law 1053 = .ok (.iaload, 1) := by decide +kernel
theorem kd_W_law_1054 : decode kc_W_law 1054 = .ok (.invokevirtual 156, 3) := by decide +kernel
theorem kd_W_law_1057 : decode kc_W_law 1057 = .ok (.istore 6, 2) := by decide +kernel
theorem kd_W_law_1059 : decode kc_W_law 1059 = .ok (.aload_n 2, 1) := by decide +kernel
theorem kd_W_law_1060 : decode kc_W_law 1060 = .ok (.invokevirtual 113, 3) := by decide +kernel
theorem kd_W_law_1063 : decode kc_W_law 1063 = .ok (.iload 5, 2) := by decide +kernel
theorem kd_W_law_1065 : decode kc_W_law 1065 = .ok (.if_icmp .eq 5, 3) := by decide +kernel
theorem kd_W_law_1068 : decode kc_W_law 1068 = .ok (.iconst 0, 1) := by decide +kernel
theorem kd_W_law_1069 : decode kc_W_law 1069 = .ok (.ireturn, 1) := by decide +kernel
theorem kd_W_law_1070 : decode kc_W_law 1070 = .ok (.iload 5, 2) := by decide +kernel
theorem kd_W_law_1072 : decode kc_W_law 1072 = .ok (.ifCond .ne 22, 3) := by decide +kernel
theorem kd_W_law_1075 : decode kc_W_law 1075 = .ok (.aload_n 3, 1) := by decide +kernel
theorem kd_W_law_1076 : decode kc_W_law 1076 = .ok (.iconst 0, 1) := by decide +kernel
theorem kd_W_law_1077 : decode kc_W_law 1077 = .ok (.laload, 1) := by decide +kernel
theorem kd_W_law_1078 : decode kc_W_law 1078 = .ok (.iload 6, 2) := by decide +kernel
theorem kd_W_law_1080 : decode kc_W_law 1080 = .ok (.ifCond .eq 7, 3) := by decide +kernel
theorem kd_W_law_1083 : decode kc_W_law 1083 = .ok (.lconst 1, 1) := by decide +kernel
theorem kd_W_law_1084 : decode kc_W_law 1084 = .ok (.goto 4, 3) := by decide +kernel
theorem kd_W_law_1087 : decode kc_W_law 1087 = .ok (.lconst 0, 1) := by decide +kernel
theorem kd_W_law_1088 : decode kc_W_law 1088 = .ok (.lcmp, 1) := by decide +kernel
theorem kd_W_law_1089 : decode kc_W_law 1089 = .ok (.ifCond .eq 5, 3) := by decide +kernel
theorem kd_W_law_1092 : decode kc_W_law 1092 = .ok (.iconst 0, 1) := by decide +kernel
theorem kd_W_law_1093 : decode kc_W_law 1093 = .ok (.ireturn, 1) := by decide +kernel
theorem kd_W_law_1094 : decode kc_W_law 1094 = .ok (.goto 919, 3) := by decide +kernel
theorem kd_W_law_1097 : decode kc_W_law 1097 = .ok (.aload_n 1, 1) := by decide +kernel
theorem kd_W_law_1098 : decode kc_W_law 1098 = .ok (.aload_n 0, 1) := by decide +kernel
theorem kd_W_law_1099 : decode kc_W_law 1099 = .ok (.iload 4, 2) := by decide +kernel
theorem kd_W_law_1101 : decode kc_W_law 1101 = .ok (.iconst 1, 1) := by decide +kernel
theorem kd_W_law_1102 : decode kc_W_law 1102 = .ok (.iadd, 1) := by decide +kernel
theorem kd_W_law_1103 : decode kc_W_law 1103 = .ok (.iaload, 1) := by decide +kernel
theorem kd_W_law_1104 : decode kc_W_law 1104 = .ok (.aload_n 0, 1) := by decide +kernel
theorem kd_W_law_1105 : decode kc_W_law 1105 = .ok (.iload 4, 2) := by decide +kernel
theorem kd_W_law_1107 : decode kc_W_law 1107 = .ok (.iconst 2, 1) := by decide +kernel
theorem kd_W_law_1108 : decode kc_W_law 1108 = .ok (.iadd, 1) := by decide +kernel
theorem kd_W_law_1109 : decode kc_W_law 1109 = .ok (.iaload, 1) := by decide +kernel
theorem kd_W_law_1110 : decode kc_W_law 1110 = .ok (.aload_n 3, 1) := by decide +kernel
theorem kd_W_law_1111 : decode kc_W_law 1111 = .ok (.invokestatic 157, 3) := by decide +kernel
theorem kd_W_law_1114 : decode kc_W_law 1114 = .ok (.istore 5, 2) := by decide +kernel
theorem kd_W_law_1116 : decode kc_W_law 1116 = .ok (.aload_n 2, 1) := by decide +kernel
theorem kd_W_law_1117 : decode kc_W_law 1117 = .ok (.aload_n 0, 1) := by decide +kernel
theorem kd_W_law_1118 : decode kc_W_law 1118 = .ok (.iload 4, 2) := by decide +kernel
theorem kd_W_law_1120 : decode kc_W_law 1120 = .ok (.iconst 1, 1) := by decide +kernel
theorem kd_W_law_1121 : decode kc_W_law 1121 = .ok (.iadd, 1) := by decide +kernel
theorem kd_W_law_1122 : decode kc_W_law 1122 = .ok (.iaload, 1) := by decide +kernel
theorem kd_W_law_1123 : decode kc_W_law 1123 = .ok (.aload_n 0, 1) := by decide +kernel
theorem kd_W_law_1124 : decode kc_W_law 1124 = .ok (.iload 4, 2) := by decide +kernel
theorem kd_W_law_1126 : decode kc_W_law 1126 = .ok (.iconst 2, 1) := by decide +kernel
theorem kd_W_law_1127 : decode kc_W_law 1127 = .ok (.iadd, 1) := by decide +kernel
theorem kd_W_law_1128 : decode kc_W_law 1128 = .ok (.iaload, 1) := by decide +kernel
theorem kd_W_law_1129 : decode kc_W_law 1129 = .ok (.invokevirtual 159, 3) := by decide +kernel
theorem kd_W_law_1132 : decode kc_W_law 1132 = .ok (.istore 6, 2) := by decide +kernel
theorem kd_W_law_1134 : decode kc_W_law 1134 = .ok (.aload_n 2, 1) := by decide +kernel
theorem kd_W_law_1135 : decode kc_W_law 1135 = .ok (.invokevirtual 113, 3) := by decide +kernel
theorem kd_W_law_1138 : decode kc_W_law 1138 = .ok (.iload 5, 2) := by decide +kernel
theorem kd_W_law_1140 : decode kc_W_law 1140 = .ok (.if_icmp .eq 5, 3) := by decide +kernel
theorem kd_W_law_1143 : decode kc_W_law 1143 = .ok (.iconst 0, 1) := by decide +kernel
theorem kd_W_law_1144 : decode kc_W_law 1144 = .ok (.ireturn, 1) := by decide +kernel
theorem kd_W_law_1145 : decode kc_W_law 1145 = .ok (.iload 5, 2) := by decide +kernel
theorem kd_W_law_1147 : decode kc_W_law 1147 = .ok (.ifCond .ne 15, 3) := by decide +kernel
theorem kd_W_law_1150 : decode kc_W_law 1150 = .ok (.aload_n 3, 1) := by decide +kernel
theorem kd_W_law_1151 : decode kc_W_law 1151 = .ok (.iconst 0, 1) := by decide +kernel
theorem kd_W_law_1152 : decode kc_W_law 1152 = .ok (.laload, 1) := by decide +kernel
theorem kd_W_law_1153 : decode kc_W_law 1153 = .ok (.iload 6, 2) := by decide +kernel
theorem kd_W_law_1155 : decode kc_W_law 1155 = .ok (.i2l, 1) := by decide +kernel
theorem kd_W_law_1156 : decode kc_W_law 1156 = .ok (.lcmp, 1) := by decide +kernel
theorem kd_W_law_1157 : decode kc_W_law 1157 = .ok (.ifCond .eq 5, 3) := by decide +kernel
theorem kd_W_law_1160 : decode kc_W_law 1160 = .ok (.iconst 0, 1) := by decide +kernel
theorem kd_W_law_1161 : decode kc_W_law 1161 = .ok (.ireturn, 1) := by decide +kernel
theorem kd_W_law_1162 : decode kc_W_law 1162 = .ok (.goto 851, 3) := by decide +kernel
theorem kd_W_law_1165 : decode kc_W_law 1165 = .ok (.aload_n 1, 1) := by decide +kernel
theorem kd_W_law_1166 : decode kc_W_law 1166 = .ok (.aload_n 0, 1) := by decide +kernel
theorem kd_W_law_1167 : decode kc_W_law 1167 = .ok (.iload 4, 2) := by decide +kernel
theorem kd_W_law_1169 : decode kc_W_law 1169 = .ok (.iconst 1, 1) := by decide +kernel
theorem kd_W_law_1170 : decode kc_W_law 1170 = .ok (.iadd, 1) := by decide +kernel
theorem kd_W_law_1171 : decode kc_W_law 1171 = .ok (.iaload, 1) := by decide +kernel
theorem kd_W_law_1172 : decode kc_W_law 1172 = .ok (.aload_n 0, 1) := by decide +kernel
theorem kd_W_law_1173 : decode kc_W_law 1173 = .ok (.iload 4, 2) := by decide +kernel
theorem kd_W_law_1175 : decode kc_W_law 1175 = .ok (.iconst 2, 1) := by decide +kernel
theorem kd_W_law_1176 : decode kc_W_law 1176 = .ok (.iadd, 1) := by decide +kernel
theorem kd_W_law_1177 : decode kc_W_law 1177 = .ok (.iaload, 1) := by decide +kernel
theorem kd_W_law_1178 : decode kc_W_law 1178 = .ok (.aload_n 0, 1) := by decide +kernel
theorem kd_W_law_1179 : decode kc_W_law 1179 = .ok (.iload 4, 2) := by decide +kernel
theorem kd_W_law_1181 : decode kc_W_law 1181 = .ok (.iconst 3, 1) := by decide +kernel
theorem kd_W_law_1182 : decode kc_W_law 1182 = .ok (.iadd, 1) := by decide +kernel
theorem kd_W_law_1183 : decode kc_W_law 1183 = .ok (.iaload, 1) := by decide +kernel
theorem kd_W_law_1184 : decode kc_W_law 1184 = .ok (.aload_n 0, 1) := by decide +kernel
theorem kd_W_law_1185 : decode kc_W_law 1185 = .ok (.iload 4, 2) := by decide +kernel
theorem kd_W_law_1187 : decode kc_W_law 1187 = .ok (.iconst 4, 1) := by decide +kernel
theorem kd_W_law_1188 : decode kc_W_law 1188 = .ok (.iadd, 1) := by decide +kernel
theorem kd_W_law_1189 : decode kc_W_law 1189 = .ok (.iaload, 1) := by decide +kernel
theorem kd_W_law_1190 : decode kc_W_law 1190 = .ok (.aload_n 0, 1) := by decide +kernel
theorem kd_W_law_1191 : decode kc_W_law 1191 = .ok (.iload 4, 2) := by decide +kernel
theorem kd_W_law_1193 : decode kc_W_law 1193 = .ok (.iconst 5, 1) := by decide +kernel
theorem kd_W_law_1194 : decode kc_W_law 1194 = .ok (.iadd, 1) := by decide +kernel
theorem kd_W_law_1195 : decode kc_W_law 1195 = .ok (.iaload, 1) := by decide +kernel
theorem kd_W_law_1196 : decode kc_W_law 1196 = .ok (.aload_n 0, 1) := by decide +kernel
theorem kd_W_law_1197 : decode kc_W_law 1197 = .ok (.iload 4, 2) := by decide +kernel
theorem kd_W_law_1199 : decode kc_W_law 1199 = .ok (.bipush 6, 2) := by decide +kernel
theorem kd_W_law_1201 : decode kc_W_law 1201 = .ok (.iadd, 1) := by decide +kernel
theorem kd_W_law_1202 : decode kc_W_law 1202 = .ok (.iaload, 1) := by decide +kernel
theorem kd_W_law_1203 : decode kc_W_law 1203 = .ok (.aload_n 0, 1) := by decide +kernel
