theorem kd_W_law_809 : decode kc_W_law 809 = .ok (.lconst 1, 1) := by decide +kernel
theorem kd_W_law_810 : decode kc_W_law 810 = .ok (.goto 4, 3) := by decide +kernel
theorem kd_W_law_813 : decode kc_W_law 813 = .ok (.lconst 0, 1) := by decide +kernel
theorem kd_W_law_814 : decode kc_W_law 814 = .ok (.lcmp, 1) := by decide +kernel
theorem kd_W_law_815 : decode kc_W_law 815 = .ok (.ifCond .eq 5, 3) := by decide +kernel
theorem kd_W_law_818 : decode kc_W_law 818 = .ok (.iconst 0, 1) := by decide +kernel
theorem kd_W_law_819 : decode kc_W_law 819 = .ok (.ireturn, 1) := by decide +kernel
theorem kd_W_law_820 : decode kc_W_law 820 = .ok (.goto 608, 3) := by decide +kernel
theorem kd_W_law_823 : decode kc_W_law 823 = .ok (.aload_n 1, 1) := by decide +kernel
theorem kd_W_law_824 : decode kc_W_law 824 = .ok (.aload_n 0, 1) := by decide +kernel
theorem kd_W_law_825 : decode kc_W_law 825 = .ok (.iload 4, 2) := by decide +kernel
theorem kd_W_law_827 : decode kc_W_law 827 = .ok (.iconst 1, 1) := by decide +kernel
theorem kd_W_law_828 : decode kc_W_law 828 = .ok (.iadd, 1) := by decide +kernel
theorem kd_W_law_829 : decode kc_W_law 829 = .ok (.iaload, 1) := by decide +kernel
theorem kd_W_law_830 : decode kc_W_law 830 = .ok (.aload_n 0, 1) := by decide +kernel
theorem kd_W_law_831 : decode kc_W_law 831 = .ok (.iload 4, 2) := by decide +kernel
theorem kd_W_law_833 : decode kc_W_law 833 = .ok (.iconst 2, 1) := by decide +kernel
theorem kd_W_law_834 : decode kc_W_law 834 = .ok (.iadd, 1) := by decide +kernel
theorem kd_W_law_835 : decode kc_W_law 835 = .ok (.iaload, 1) := by decide +kernel
theorem kd_W_law_836 : decode kc_W_law 836 = .ok (.aload_n 3, 1) := by decide +kernel
theorem kd_W_law_837 : decode kc_W_law 837 = .ok (.invokestatic 157, 3) := by decide +kernel
theorem kd_W_law_840 : decode kc_W_law 840 = .ok (.istore 5, 2) := by decide +kernel
theorem kd_W_law_842 : decode kc_W_law 842 = .ok (.aload_n 2, 1) := by decide +kernel
theorem kd_W_law_843 : decode kc_W_law 843 = .ok (.aload_n 0, 1) := by decide +kernel
theorem kd_W_law_844 : decode kc_W_law 844 = .ok (.iload 4, 2) := by decide +kernel
theorem kd_W_law_846 : decode kc_W_law 846 = .ok (.iconst 1, 1) := by decide +kernel
theorem kd_W_law_847 : decode kc_W_law 847 = .ok (.iadd, 1) := by decide +kernel
theorem kd_W_law_848 : decode kc_W_law 848 = .ok (.iaload, 1) := by decide +kernel
theorem kd_W_law_849 : decode kc_W_law 849 = .ok (.aload_n 0, 1) := by decide +kernel
theorem kd_W_law_850 : decode kc_W_law 850 = .ok (.iload 4, 2) := by decide +kernel
theorem kd_W_law_852 : decode kc_W_law 852 = .ok (.iconst 2, 1) := by decide +kernel
theorem kd_W_law_853 : decode kc_W_law 853 = .ok (.iadd, 1) := by decide +kernel
theorem kd_W_law_854 : decode kc_W_law 854 = .ok (.iaload, 1) := by decide +kernel
theorem kd_W_law_855 : decode kc_W_law 855 = .ok (.invokevirtual 159, 3) := by decide +kernel
theorem kd_W_law_858 : decode kc_W_law 858 = .ok (.istore 6, 2) := by decide +kernel
theorem kd_W_law_860 : decode kc_W_law 860 = .ok (.goto 568, 3) := by decide +kernel
theorem kd_W_law_863 : decode kc_W_law 863 = .ok (.aload_n 1, 1) := by decide +kernel
theorem kd_W_law_864 : decode kc_W_law 864 = .ok (.aload_n 0, 1) := by decide +kernel
theorem kd_W_law_865 : decode kc_W_law 865 = .ok (.iload 4, 2) := by decide +kernel
theorem kd_W_law_867 : decode kc_W_law 867 = .ok (.iconst 1, 1) := by decide +kernel
theorem kd_W_law_868 : decode kc_W_law 868 = .ok (.iadd, 1) := by decide +kernel
theorem kd_W_law_869 : decode kc_W_law 869 = .ok (.iaload, 1) := by decide +kernel
theorem kd_W_law_870 : decode kc_W_law 870 = .ok (.aload_n 0, 1) := by decide +kernel
theorem kd_W_law_871 : decode kc_W_law 871 = .ok (.iload 4, 2) := by decide +kernel
theorem kd_W_law_873 : decode kc_W_law 873 = .ok (.iconst 2, 1) := by decide +kernel
theorem kd_W_law_874 : decode kc_W_law 874 = .ok (.iadd, 1) := by decide +kernel
theorem kd_W_law_875 : decode kc_W_law 875 = .ok (.iaload, 1) := by decide +kernel
theorem kd_W_law_876 : decode kc_W_law 876 = .ok (.aload_n 0, 1) := by decide +kernel
theorem kd_W_law_877 : decode kc_W_law 877 = .ok (.iload 4, 2) := by decide +kernel
theorem kd_W_law_879 : decode kc_W_law 879 = .ok (.iconst 3, 1) := by decide +kernel
theorem kd_W_law_880 : decode kc_W_law 880 = .ok (.iadd, 1) := by decide +kernel
theorem kd_W_law_881 : decode kc_W_law 881 = .ok (.iaload, 1) := by decide +kernel
theorem kd_W_law_882 : decode kc_W_law 882 = .ok (.aload_n 0, 1) := by decide +kernel
theorem kd_W_law_883 : decode kc_W_law 883 = .ok (.iload 4, 2) := by decide +kernel
theorem kd_W_law_885 : decode kc_W_law 885 = .ok (.iconst 4, 1) := by decide +kernel
theorem kd_W_law_886 : decode kc_W_law 886 = .ok (.iadd, 1) := by decide +kernel
theorem kd_W_law_887 : decode kc_W_law 887 = .ok (.iaload, 1) := by decide +kernel
theorem kd_W_law_888 : decode kc_W_law 888 = .ok (.aload_n 0, 1) := by decide +kernel
theorem kd_W_law_889 : decode kc_W_law 889 = .ok (.iload 4, 2) := by decide +kernel
theorem kd_W_law_891 : decode kc_W_law 891 = .ok (.iconst 5, 1) := by decide +kernel
theorem kd_W_law_892 : decode kc_W_law 892 = .ok (.iadd, 1) := by decide +kernel
theorem kd_W_law_893 : decode kc_W_law 893 = .ok (.iaload, 1) := by decide +kernel
theorem kd_W_law_894 : decode kc_W_law 894 = .ok (.aload_n 0, 1) := by decide +kernel
theorem kd_W_law_895 : decode kc_W_law 895 = .ok (.iload 4, 2) := by decide +kernel
theorem kd_W_law_897 : decode kc_W_law 897 = .ok (.bipush 6, 2) := by decide +kernel
theorem kd_W_law_899 : decode kc_W_law 899 = .ok (.iadd, 1) := by decide +kernel
theorem kd_W_law_900 : decode kc_W_law 900 = .ok (.iaload, 1) := by decide +kernel
theorem kd_W_law_901 : decode kc_W_law 901 = .ok (.aload_n 0, 1) := by decide +kernel
theorem kd_W_law_902 : decode kc_W_law 902 = .ok (.iload 4, 2) := by decide +kernel
theorem kd_W_law_904 : decode kc_W_law 904 = .ok (.bipush 7, 2) := by decide +kernel
theorem kd_W_law_906 : decode kc_W_law 906 = .ok (.iadd, 1) := by decide +kernel
theorem kd_W_law_907 : decode kc_W_law 907 = .ok (.iaload, 1) := by decide +kernel
theorem kd_W_law_908 : decode kc_W_law 908 = .ok (.ifCond .eq 7, 3) := by decide +kernel
theorem kd_W_law_911 : decode kc_W_law 911 = .ok (.iconst 1, 1) := by decide +kernel
theorem kd_W_law_912 : decode kc_W_law 912 = .ok (.goto 4, 3) := by decide +kernel
theorem kd_W_law_915 : decode kc_W_law 915 = .ok (.iconst 0, 1) := by decide +kernel
theorem kd_W_law_916 : decode kc_W_law 916 = .ok (.aload_n 3, 1) := by decide +kernel
theorem kd_W_law_917 : decode kc_W_law 917 = .ok (.invokestatic 160, 3) := by decide +kernel
theorem kd_W_law_920 : decode kc_W_law 920 = .ok (.istore 5, 2) := by decide +kernel
theorem kd_W_law_922 : decode kc_W_law 922 = .ok (.aload_n 2, 1) := by decide +kernel
theorem kd_W_law_923 : decode kc_W_law 923 = .ok (.aload_n 0, 1) := by decide +kernel
theorem kd_W_law_924 : decode kc_W_law 924 = .ok (.iload 4, 2) := by decide +kernel
theorem kd_W_law_926 : decode kc_W_law 926 = .ok (.iconst 1, 1) := by decide +kernel
theorem kd_W_law_927 : decode kc_W_law 927 = .ok (.iadd, 1) := by decide +kernel
theorem kd_W_law_928 : decode kc_W_law 928 = .ok (.iaload, 1) := by decide +kernel
theorem kd_W_law_929 : decode kc_W_law 929 = .ok (.aload_n 0, 1) := by decide +kernel
theorem kd_W_law_930 : decode kc_W_law 930 = .ok (.iload 4, 2) := by decide +kernel
theorem kd_W_law_932 : decode kc_W_law 932 = .ok (.iconst 2, 1) := by decide +kernel
theorem kd_W_law_933 : decode kc_W_law 933 = .ok (.iadd, 1) := by decide +kernel
theorem kd_W_law_934 : decode kc_W_law 934 = .ok (.iaload, 1) := by decide +kernel
theorem kd_W_law_935 : decode kc_W_law 935 = .ok (.aload_n 0, 1) := by decide +kernel
theorem kd_W_law_936 : decode kc_W_law 936 = .ok (.iload 4, 2) := by decide +kernel
theorem kd_W_law_938 : decode kc_W_law 938 = .ok (.iconst 3, 1) := by decide +kernel
theorem kd_W_law_939 : decode kc_W_law 939 = .ok (.iadd, 1) := by decide +kernel
theorem kd_W_law_940 : decode kc_W_law 940 = .ok (.iaload, 1) := by decide +kernel
theorem kd_W_law_941 : decode kc_W_law 941 = .ok (.aload_n 0, 1) := by decide +kernel
theorem kd_W_law_942 : decode kc_W_law 942 = .ok (.iload 4, 2) := by decide +kernel
theorem kd_W_law_944 : decode kc_W_law 944 = .ok (.iconst 4, 1) := by decide +kernel
theorem kd_W_law_945 : decode kc_W_law 945 = .ok (.iadd, 1) := by decide +kernel
theorem kd_W_law_946 : decode kc_W_law 946 = .ok (.iaload, 1) := by decide +kernel
theorem kd_W_law_947 : decode kc_W_law 947 = .ok (.aload_n 0, 1) := by decide +kernel
theorem kd_W_law_948 : decode kc_W_law 948 = .ok (.iload 4, 2) := by decide +kernel
theorem kd_W_law_950 : decode kc_W_law 950 = .ok (.iconst 5, 1) := by decide +kernel
theorem kd_W_law_951 : decode kc_W_law 951 = .ok (.iadd, 1) := by decide +kernel
theorem kd_W_law_952 : decode kc_W_law 952 = .ok (.iaload, 1) := by decide +kernel
theorem kd_W_law_953 : decode kc_W_law 953 = .ok (.aload_n 0, 1) := by decide +kernel
theorem kd_W_law_954 : decode kc_W_law 954 = .ok (.iload 4, 2) := by decide +kernel
theorem kd_W_law_956 : decode kc_W_law 956 = .ok (.bipush 6, 2) := by decide +kernel
theorem kd_W_law_958 : decode kc_W_law 958 = .ok (.iadd, 1) := by decide +kernel
theorem kd_W_law_959 : decode kc_W_law 959 = .ok (.iaload, 1) := by decide +kernel
theorem kd_W_law_960 : decode kc_W_law 960 = .ok (.aload_n 0, 1) := by decide +kernel
theorem kd_W_law_961 : decode kc_W_law 961 = .ok (.iload 4, 2) := by decide +kernel
theorem kd_W_law_963 : decode kc_W_law 963 = .ok (.bipush 7, 2) := by decide +kernel
theorem kd_W_law_965 : decode kc_W_law 965 = .ok (.iadd, 1) := by decide +kernel
theorem kd_W_law_966 : decode kc_W_law 966 = .ok (.iaload, 1) := by decide +kernel
theorem kd_W_law_967 : decode kc_W_law 967 = .ok (.ifCond .eq 7, 3) := by decide +kernel
theorem kd_W_law_970 : decode kc_W_law 970 = .ok (.iconst 1, 1) := by decide +kernel
theorem kd_W_law_971 : decode kc_W_law 971 = .ok (.goto 4, 3) := by decide +kernel
theorem kd_W_law_974 : decode kc_W_law 974 = .ok (.iconst 0, 1) := by decide +kernel
theorem kd_W_law_975 : decode kc_W_law 975 = .ok (.invokevirtual 163, 3) := by decide +kernel
theorem kd_W_law_978 : decode kc_W_law 978 = .ok (.istore 6, 2) := by decide +kernel
theorem kd_W_law_980 : decode kc_W_law 980 = .ok (.goto 448, 3) := by decide +kernel
theorem kd_W_law_983 : decode kc_W_law 983 = .ok (.aload_n 1, 1) := by decide +kernel
theorem kd_W_law_984 : decode kc_W_law 984 = .ok (.aload_n 0, 1) := by decide +kernel
theorem kd_W_law_985 : decode kc_W_law 985 = .ok (.iload 4, 2) := by decide +kernel
theorem kd_W_law_987 : decode kc_W_law 987 = .ok (.iconst 1, 1) := by decide +kernel
theorem kd_W_law_988 : decode kc_W_law 988 = .ok (.iadd, 1) := by decide +kernel
theorem kd_W_law_989 : decode kc_W_law 989 = .ok (.iaload, 1) := by decide +kernel
theorem kd_W_law_990 : decode kc_W_law 990 = .ok (.aload_n 0, 1) := by decide +kernel
theorem kd_W_law_991 : decode kc_W_law 991 = .ok (.iload 4, 2) := by decide +kernel
theorem kd_W_law_993 : decode kc_W_law 993 = .ok (.iconst 2, 1) := by decide +kernel
theorem kd_W_law_994 : decode kc_W_law 994 = .ok (.iadd, 1) := by decide +kernel
theorem kd_W_law_995 : decode kc_W_law 995 = .ok (.iaload, 1) := by decide +kernel
theorem kd_W_law_996 : decode kc_W_law 996 = .ok (.aload_n 0, 1) := by decide +kernel
theorem kd_W_law_997 : decode kc_W_law 997 = .ok (.iload 4, 2) := by decide +kernel
theorem kd_W_law_999 : decode kc_W_law 999 = .ok (.iconst 3, 1) := by decide +kernel
theorem kd_W_law_1000 : decode kc_W_law 1000 = .ok (.iadd, 1) := by decide +kernel
theorem kd_W_law_1001 : decode kc_W_law 1001 = .ok (.iaload, 1) := by decide +kernel
theorem kd_W_law_1002 : decode kc_W_law 1002 = .ok (.invokestatic 164, 3) := by decide +kernel
theorem kd_W_law_1005 : decode kc_W_law 1005 = .ok (.istore 5, 2) := by decide +kernel
theorem kd_W_law_1007 : decode kc_W_law 1007 = .ok (.aload_n 2, 1) := by decide +kernel
theorem kd_W_law_1008 : decode kc_W_law 1008 = .ok (.aload_n 0, 1) := by decide +kernel
theorem kd_W_law_1009 : decode kc_W_law 1009 = .ok (.iload 4, 2) := by decide +kernel
theorem kd_W_law_1011 : decode kc_W_law 1011 = .ok (.iconst 1, 1) := by decide +kernel
theorem kd_W_law_1012 : decode kc_W_law 1012 = .ok (.iadd, 1) := by decide +kernel
theorem kd_W_law_1013 : decode kc_W_law 1013 = .ok (.iaload, 1) := by decide +kernel
theorem kd_W_law_1014 : decode kc_W_law 1014 = .ok (.aload_n 0, 1) := by decide +kernel
theorem kd_W_law_1015 : decode kc_W_law 1015 = .ok (.iload 4, 2) := by decide +kernel
theorem kd_W_law_1017 : decode kc_W_law 1017 = .ok (.iconst 2, 1) := by decide +kernel
theorem kd_W_law_1018 : decode kc_W_law 1018 = .ok (.iadd, 1) := by decide +kernel
theorem kd_W_law_1019 : decode kc_W_law 1019 = .ok (.iaload, 1) := by decide +kernel
theorem kd_W_law_1020 : decode kc_W_law 1020 = .ok (.aload_n 0, 1) := by decide +kernel
theorem kd_W_law_1021 : decode kc_W_law 1021 = .ok (.iload 4, 2) := by decide +kernel
theorem kd_W_law_1023 : decode kc_W_law 1023 = .ok (.iconst 3, 1) := by decide +kernel
theorem kd_W_law_1024 : decode kc_W_law 1024 = .ok (.iadd, 1) := by decide +kernel
theorem kd_W_law_1025 : decode kc_W_law 1025 = .ok (.iaload, 1) := by decide +kernel
theorem kd_W_law_1026 : decode kc_W_law 1026 = .ok (.invokevirtual 166, 3) := by decide +kernel
theorem kd_W_law_1029 : decode kc_W_law 1029 = .ok (.goto 399, 3) := by decide +kernel
theorem kd_W_law_1032 : decode kc_W_law 1032 = .ok (.aload_n 1, 1) := by decide +kernel
theorem kd_W_law_1033 : decode kc_W_law 1033 = .ok (.aload_n 0, 1) := by decide +kernel
theorem kd_W_law_1034 : decode kc_W_law 1034 = .ok (.iload 4, 2) := by decide +kernel
theorem kd_W_law_1036 : decode kc_W_law 1036 = .ok (.iconst 1, 1) := by decide +kernel
theorem kd_W_law_1037 : decode kc_W_law 1037 = .ok (.iadd, 1) := by decide +kernel
theorem kd_W_law_1038 : decode kc_W_law 1038 = .ok (.iaload, 1) := by decide +kernel
theorem kd_W_law_1039 : decode kc_W_law 1039 = .ok (.aload_n 0, 1) := by decide +kernel
theorem kd_W_law_1040 : decode kc_W_law 1040 = .ok (.iload 4, 2) := by decide +kernel
theorem kd_W_law_1042 : decode kc_W_law 1042 = .ok (.iconst 2, 1) := by decide +kernel
theorem kd_W_law_1043 : decode kc_W_law 1043 = .ok (.iadd, 1) := by decide +kernel
theorem kd_W_law_1044 : decode kc_W_law 1044 = .ok (.iaload, 1) := by decide +kernel
theorem kd_W_law_1045 : decode kc_W_law 1045 = .ok (.aload_n 0, 1) := by decide +kernel
theorem kd_W_law_1046 : decode kc_W_law 1046 = .ok (.iload 4, 2) := by decide +kernel
theorem kd_W_law_1048 : decode kc_W_law 1048 = .ok (.iconst 3, 1) := by decide +kernel
theorem kd_W_law_1049 : decode kc_W_law 1049 = .ok (.iadd, 1) := by decide +kernel
theorem kd_W_law_1050 : decode kc_W_law 1050 = .ok (.iaload, 1) := by decide +kernel
theorem kd_W_law_1051 : decode kc_W_law 1051 = .ok (.aload_n 3, 1) := by decide +kernel
theorem kd_W_law_1052 : decode kc_W_law 1052 = .ok (.invokestatic 167, 3) := by decide +kernel
theorem kd_W_law_1055 : decode kc_W_law 1055 = .ok (.istore 5, 2) := by decide +kernel
theorem kd_W_law_1057 : decode kc_W_law 1057 = .ok (.aload_n 2, 1) := by decide +kernel
theorem kd_W_law_1058 : decode kc_W_law 1058 = .ok (.aload_n 0, 1) := by decide +kernel
theorem kd_W_law_1059 : decode kc_W_law 1059 = .ok (.iload 4, 2) := by decide +kernel
theorem kd_W_law_1061 : decode kc_W_law 1061 = .ok (.iconst 1, 1) := by decide +kernel
theorem kd_W_law_1062 : decode kc_W_law 1062 = .ok (.iadd, 1) := by decide +kernel
theorem kd_W_law_1063 : decode kc_W_law 1063 = .ok (.iaload, 1) := by decide +kernel
theorem kd_W_law_1064 : decode kc_W_law 1064 = .ok (.aload_n 0, 1) := by decide +kernel
theorem kd_W_law_1065 : decode kc_W_law 1065 = .ok (.iload 4, 2) := by decide +kernel
theorem kd_W_law_1067 : decode kc_W_law 1067 = .ok (.iconst 2, 1) := by decide +kernel
theorem kd_W_law_1068 : decode kc_W_law 1068 = .ok (.iadd, 1) := by decide +kernel
theorem kd_W_law_1069 : decode kc_W_law 1069 = .ok (.iaload, 1) := by decide +kernel
theorem kd_W_law_1070 : decode kc_W_law 1070 = .ok (.aload_n 0, 1) := by decide +kernel
theorem kd_W_law_1071 : decode kc_W_law 1071 = .ok (.iload 4, 2) := by decide +kernel
theorem kd_W_law_1073 : decode kc_W_law 1073 = .ok (.iconst 3, 1) := by decide +kernel
theorem kd_W_law_1074 : decode kc_W_law 1074 = .ok (.iadd, 1) := by decide +kernel
theorem kd_W_law_1075 : decode kc_W_law 1075 = .ok (.iaload, 1) := by decide +kernel
theorem kd_W_law_1076 : decode kc_W_law 1076 = .ok (.invokevirtual 169, 3) := by decide +kernel
theorem kd_W_law_1079 : decode kc_W_law 1079 = .ok (.lstore 6, 2) := by decide +kernel
theorem kd_W_law_1081 : decode kc_W_law 1081 = .ok (.goto 347, 3) := by decide +kernel
theorem kd_W_law_1084 : decode kc_W_law 1084 = .ok (.aload_n 1, 1) := by decide +kernel
theorem kd_W_law_1085 : decode kc_W_law 1085 = .ok (.aload_n 0, 1) := by decide +kernel
theorem kd_W_law_1086 : decode kc_W_law 1086 = .ok (.iload 4, 2) := by decide +kernel
theorem kd_W_law_1088 : decode kc_W_law 1088 = .ok (.iconst 1, 1) := by decide +kernel
theorem kd_W_law_1089 : decode kc_W_law 1089 = .ok (.iadd, 1) := by decide +kernel
theorem kd_W_law_1090 : decode kc_W_law 1090 = .ok (.iaload, 1) := by decide +kernel
theorem kd_W_law_1091 : decode kc_W_law 1091 = .ok (.aload_n 3, 1) := by decide +kernel
theorem kd_W_law_1092 : decode kc_W_law 1092 = .ok (.invokestatic 170, 3) := by decide +kernel
theorem kd_W_law_1095 : decode kc_W_law 1095 = .ok (.istore 5, 2) := by decide +kernel
theorem kd_W_law_1097 : decode kc_W_law 1097 = .ok (.aload_n 2, 1) := by decide +kernel
theorem kd_W_law_1098 : decode kc_W_law 1098 = .ok (.aload_n 0, 1) := by decide +kernel
theorem kd_W_law_1099 : decode kc_W_law 1099 = .ok (.iload 4, 2) := by decide +kernel
theorem kd_W_law_1101 : decode kc_W_law 1101 = .ok (.iconst 1, 1) := by decide +kernel
theorem kd_W_law_1102 : decode kc_W_law 1102 = .ok (.iadd, 1) := by decide +kernel
theorem kd_W_law_1103 : decode kc_W_law 1103 = .ok (.iaload, 1) := by decide +kernel
theorem kd_W_law_1104 : decode kc_W_law 1104 = .ok (.invokevirtual 172, 3) := by decide +kernel
theorem kd_W_law_1107 : decode kc_W_law 1107 = .ok (.lstore 6, 2) := by decide +kernel
theorem kd_W_law_1109 : decode kc_W_law 1109 = .ok (.goto 319, 3) := by decide +kernel
theorem kd_W_law_1112 : decode kc_W_law 1112 = .ok (.aload_n 1, 1) := by decide +kernel
theorem kd_W_law_1113 : decode kc_W_law 1113 = .ok (.aload_n 0, 1) := by decide +kernel
theorem kd_W_law_1114 : decode kc_W_law 1114 = .ok (.iload 4, 2) := by decide +kernel
theorem kd_W_law_1116 : decode kc_W_law 1116 = .ok (.iconst 1, 1) := by decide +kernel
theorem kd_W_law_1117 : decode kc_W_law 1117 = .ok (.iadd, 1) := by decide +kernel
theorem kd_W_law_1118 : decode kc_W_law 1118 = .ok (.iaload, 1) := by decide +kernel
theorem kd_W_law_1119 : decode kc_W_law 1119 = .ok (.aload_n 0, 1) := by decide +kernel
theorem kd_W_law_1120 : decode kc_W_law 1120 = .ok (.iload 4, 2) := by decide +kernel
theorem kd_W_law_1122 : decode kc_W_law 1122 = .ok (.iconst 2, 1) := by decide +kernel
theorem kd_W_law_1123 : decode kc_W_law 1123 = .ok (.iadd, 1) := by decide +kernel
theorem kd_W_law_1124 : decode kc_W_law 1124 = .ok (.iaload, 1) := by decide +kernel
theorem kd_W_law_1125 : decode kc_W_law 1125 = .ok (.aload_n 0, 1) := by decide +kernel
theorem kd_W_law_1126 : decode kc_W_law 1126 = .ok (.iload 4, 2) := by decide +kernel
theorem kd_W_law_1128 : decode kc_W_law 1128 = .ok (.iconst 3, 1) := by decide +kernel
theorem kd_W_law_1129 : decode kc_W_law 1129 = .ok (.iadd, 1) := by decide +kernel
theorem kd_W_law_1130 : decode kc_W_law 1130 = .ok (.iaload, 1) := by decide +kernel
theorem kd_W_law_1131 : decode kc_W_law 1131 = .ok (.aload_n 0, 1) := by decide +kernel
theorem kd_W_law_1132 : decode kc_W_law 1132 = .ok (.iload 4, 2) := by decide +kernel
theorem kd_W_law_1134 : decode kc_W_law 1134 = .ok (.iconst 4, 1) := by decide +kernel
theorem kd_W_law_1135 : decode kc_W_law 1135 = .ok (.iadd, 1) := by decide +kernel
theorem kd_W_law_1136 : decode kc_W_law 1136 = .ok (.iaload, 1) := by decide +kernel
theorem kd_W_law_1137 : decode kc_W_law 1137 = .ok (.aload_n 3, 1) := by decide +kernel
theorem kd_W_law_1138 : decode kc_W_law 1138 = .ok (.invokestatic 173, 3) := by decide +kernel
theorem kd_W_law_1141 : decode kc_W_law 1141 = .ok (.istore 5, 2) := by decide +kernel
theorem kd_W_law_1143 : decode kc_W_law 1143 = .ok (.aload_n 2, 1) := by decide +kernel
theorem kd_W_law_1144 : decode kc_W_law 1144 = .ok (.aload_n 0, 1) := by decide +kernel
theorem kd_W_law_1145 : decode kc_W_law 1145 = .ok (.iload 4, 2) := by decide +kernel
theorem kd_W_law_1147 : decode kc_W_law 1147 = .ok (.iconst 1, 1) := by decide +kernel
theorem kd_W_law_1148 : decode kc_W_law 1148 = .ok (.iadd, 1) := by decide +kernel
theorem kd_W_law_1149 : decode kc_W_law 1149 = .ok (.iaload, 1) := by decide +kernel
theorem kd_W_law_1150 : decode kc_W_law 1150 = .ok (.aload_n 0, 1) := by decide +kernel
theorem kd_W_law_1151 : decode kc_W_law 1151 = .ok (.iload 4, 2) := by decide +kernel
theorem kd_W_law_1153 : decode kc_W_law 1153 = .ok (.iconst 2, 1) := by decide +kernel
theorem kd_W_law_1154 : decode kc_W_law 1154 = .ok (.iadd, 1) := by decide +kernel
theorem kd_W_law_1155 : decode kc_W_law 1155 = .ok (.iaload, 1) := by decide +kernel
theorem kd_W_law_1156 : decode kc_W_law 1156 = .ok (.aload_n 0, 1) := by decide +kernel
