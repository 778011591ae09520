theorem kd_W_law_802 : decode kc_W_law 802 = .ok (.invokestatic 153, 3) := by decide +kernel
theorem kd_W_law_805 : decode kc_W_law 805 = .ok (.istore 5, 2) := by decide +kernel
theorem kd_W_law_807 : decode kc_W_law 807 = .ok (.aload_n 2, 1) := by decide +kernel
theorem kd_W_law_808 : decode kc_W_law 808 = .ok (.aload_n 0, 1) := by decide +kernel
theorem kd_W_law_809 : decode kc_W_law 809 = .ok (.iload 4, 2) := by decide +kernel
theorem kd_W_law_811 : decode kc_W_law 811 = .ok (.iconst 1, 1) := by decide +kernel
theorem kd_W_law_812 : decode kc_W_law 812 = .ok (.iadd, 1) := by decide +kernel
theorem kd_W_law_813 : decode kc_W_law 813 = .ok (.iaload, 1) := by decide +kernel
theorem kd_W_law_814 : decode kc_W_law 814 = .ok (.aload_n 0, 1) := by decide +kernel
theorem kd_W_law_815 : decode kc_W_law 815 = .ok (.iload 4, 2) := by decide +kernel
theorem kd_W_law_817 : decode kc_W_law 817 = .ok (.iconst 2, 1) := by decide +kernel
theorem kd_W_law_818 : decode kc_W_law 818 = .ok (.iadd, 1) := by decide +kernel
theorem kd_W_law_819 : decode kc_W_law 819 = .ok (.iaload, 1) := by decide +kernel
theorem kd_W_law_820 : decode kc_W_law 820 = .ok (.invokevirtual 155, 3) := by decide +kernel
theorem kd_W_law_823 : decode kc_W_law 823 = .ok (.istore 6, 2) := by decide +kernel
theorem kd_W_law_825 : decode kc_W_law 825 = .ok (.goto 579, 3) := by decide +kernel
theorem kd_W_law_828 : decode kc_W_law 828 = .ok (.aload_n 1, 1) := by decide +kernel
theorem kd_W_law_829 : decode kc_W_law 829 = .ok (.aload_n 0, 1) := by decide +kernel
theorem kd_W_law_830 : decode kc_W_law 830 = .ok (.iload 4, 2) := by decide +kernel
theorem kd_W_law_832 : decode kc_W_law 832 = .ok (.iconst 1, 1) := by decide +kernel
theorem kd_W_law_833 : decode kc_W_law 833 = .ok (.iadd, 1) := by decide +kernel
theorem kd_W_law_834 : decode kc_W_law 834 = .ok (.iaload, 1) := by decide +kernel
theorem kd_W_law_835 : decode kc_W_law 835 = .ok (.aload_n 0, 1) := by decide +kernel
theorem kd_W_law_836 : decode kc_W_law 836 = .ok (.iload 4, 2) := by decide +kernel
theorem kd_W_law_838 : decode kc_W_law 838 = .ok (.iconst 2, 1) := by decide +kernel
theorem kd_W_law_839 : decode kc_W_law 839 = .ok (.iadd, 1) := by decide +kernel
theorem kd_W_law_840 : decode kc_W_law 840 = .ok (.iaload, 1) := by decide +kernel
theorem kd_W_law_841 : decode kc_W_law 841 = .ok (.aload_n 0, 1) := by decide +kernel
theorem kd_W_law_842 : decode kc_W_law 842 = .ok (.iload 4, 2) := by decide +kernel
theorem kd_W_law_844 : decode kc_W_law 844 = .ok (.iconst 3, 1) := by decide +kernel
theorem kd_W_law_845 : decode kc_W_law 845 = .ok (.iadd, 1) := by decide +kernel
theorem kd_W_law_846 : decode kc_W_law 846 = .ok (.iaload, 1) := by decide +kernel
theorem kd_W_law_847 : decode kc_W_law 847 = .ok (.aload_n 0, 1) := by decide +kernel
theorem kd_W_law_848 : decode kc_W_law 848 = .ok (.iload 4, 2) := by decide +kernel
theorem kd_W_law_850 : decode kc_W_law 850 = .ok (.iconst 4, 1) := by decide +kernel
theorem kd_W_law_851 : decode kc_W_law 851 = .ok (.iadd, 1) := by decide +kernel
theorem kd_W_law_852 : decode kc_W_law 852 = .ok (.iaload, 1) := by decide +kernel
theorem kd_W_law_853 : decode kc_W_law 853 = .ok (.aload_n 0, 1) := by decide +kernel
theorem kd_W_law_854 : decode kc_W_law 854 = .ok (.iload 4, 2) := by decide +kernel
theorem kd_W_law_856 : decode kc_W_law 856 = .ok (.iconst 5, 1) := by decide +kernel
theorem kd_W_law_857 : decode kc_W_law 857 = .ok (.iadd, 1) := by decide +kernel
theorem kd_W_law_858 : decode kc_W_law 858 = .ok (.iaload, 1) := by decide +kernel
theorem kd_W_law_859 : decode kc_W_law 859 = .ok (.aload_n 0, 1) := by decide +kernel
theorem kd_W_law_860 : decode kc_W_law 860 = .ok (.iload 4, 2) := by decide +kernel
theorem kd_W_law_862 : decode kc_W_law 862 = .ok (.bipush 6, 2) := by decide +kernel
theorem kd_W_law_864 : decode kc_W_law 864 = .ok (.iadd, 1) := by decide +kernel
theorem kd_W_law_865 : decode kc_W_law 865 = .ok (.iaload, 1) := by decide +kernel
theorem kd_W_law_866 : decode kc_W_law 866 = .ok (.aload_n 0, 1) := by decide +kernel
theorem kd_W_law_867 : decode kc_W_law 867 = .ok (.iload 4, 2) := by decide +kernel
theorem kd_W_law_869 : decode kc_W_law 869 = .ok (.bipush 7, 2) := by decide +kernel
theorem kd_W_law_871 : decode kc_W_law 871 = .ok (.iadd, 1) := by decide +kernel
theorem kd_W_law_872 : decode kc_W_law 872 = .ok (.iaload, 1) := by decide +kernel
theorem kd_W_law_873 : decode kc_W_law 873 = .ok (.ifCond .eq 7, 3) := by decide +kernel
theorem kd_W_law_876 : decode kc_W_law 876 = .ok (.iconst 1, 1) := by decide +kernel
theorem kd_W_law_877 : decode kc_W_law 877 = .ok (.goto 4, 3) := by decide +kernel
theorem kd_W_law_880 : decode kc_W_law 880 = .ok (.iconst 0, 1) := by decide +kernel
theorem kd_W_law_881 : decode kc_W_law 881 = .ok (.aload_n 3, 1) := by decide +kernel
theorem kd_W_law_882 : decode kc_W_law 882 = .ok (.invokestatic 156, 3) := by decide +kernel
theorem kd_W_law_885 : decode kc_W_law 885 = .ok (.istore 5, 2) := by decide +kernel
theorem kd_W_law_887 : decode kc_W_law 887 = .ok (.aload_n 2, 1) := by decide +kernel
theorem kd_W_law_888 : decode kc_W_law 888 = .ok (.aload_n 0, 1) := by decide +kernel
theorem kd_W_law_889 : decode kc_W_law 889 = .ok (.iload 4, 2) := by decide +kernel
theorem kd_W_law_891 : decode kc_W_law 891 = .ok (.iconst 1, 1) := by decide +kernel
theorem kd_W_law_892 : decode kc_W_law 892 = .ok (.iadd, 1) := by decide +kernel
theorem kd_W_law_893 : decode kc_W_law 893 = .ok (.iaload, 1) := by decide +kernel
theorem kd_W_law_894 : decode kc_W_law 894 = .ok (.aload_n 0, 1) := by decide +kernel
theorem kd_W_law_895 : decode kc_W_law 895 = .ok (.iload 4, 2) := by decide +kernel
theorem kd_W_law_897 : decode kc_W_law 897 = .ok (.iconst 2, 1) := by decide +kernel
theorem kd_W_law_898 : decode kc_W_law 898 = .ok (.iadd, 1) := by decide +kernel
theorem kd_W_law_899 : decode kc_W_law 899 = .ok (.iaload, 1) := by decide +kernel
theorem kd_W_law_900 : decode kc_W_law 900 = .ok (.aload_n 0, 1) := by decide +kernel
theorem kd_W_law_901 : decode kc_W_law 901 = .ok (.iload 4, 2) := by decide +kernel
theorem kd_W_law_903 : decode kc_W_law 903 = .ok (.iconst 3, 1) := by decide +kernel
theorem kd_W_law_904 : decode kc_W_law 904 = .ok (.iadd, 1) := by decide +kernel
theorem kd_W_law_905 : decode kc_W_law 905 = .ok (.iaload, 1) := by decide +kernel
theorem kd_W_law_906 : decode kc_W_law 906 = .ok (.aload_n 0, 1) := by decide +kernel
theorem kd_W_law_907 : decode kc_W_law 907 = .ok (.iload 4, 2) := by decide +kernel
theorem kd_W_law_909 : decode kc_W_law 909 = .ok (.iconst 4, 1) := by decide +kernel
theorem kd_W_law_910 : decode kc_W_law 910 = .ok (.iadd, 1) := by decide +kernel
theorem kd_W_law_911 : decode kc_W_law 911 = .ok (.iaload, 1) := by decide +kernel
theorem kd_W_law_912 : decode kc_W_law 912 = .ok (.aload_n 0, 1) := by decide +kernel
theorem kd_W_law_913 : decode kc_W_law 913 = .ok (.iload 4, 2) := by decide +kernel
theorem kd_W_law_915 : decode kc_W_law 915 = .ok (.iconst 5, 1) := by decide +kernel
theorem kd_W_law_916 : decode kc_W_law 916 = .ok (.iadd, 1) := by decide +kernel
theorem kd_W_law_917 : decode kc_W_law 917 = .ok (.iaload, 1) := by decide +kernel
theorem kd_W_law_918 : decode kc_W_law 918 = .ok (.aload_n 0, 1) := by decide +kernel
theorem kd_W_law_919 : decode kc_W_law 919 = .ok (.iload 4, 2) := by decide +kernel
theorem kd_W_law_921 : decode kc_W_law 921 = .ok (.bipush 6, 2) := by decide +kernel
theorem kd_W_law_923 : decode kc_W_law 923 = .ok (.iadd, 1) := by decide +kernel
theorem kd_W_law_924 : decode kc_W_law 924 = .ok (.iaload, 1) := by decide +kernel
theorem kd_W_law_925 : decode kc_W_law 925 = .ok (.aload_n 0, 1) := by decide +kernel
theorem kd_W_law_926 : decode kc_W_law 926 = .ok (.iload 4, 2) := by decide +kernel
theorem kd_W_law_928 : decode kc_W_law 928 = .ok (.bipush 7, 2) := by decide +kernel
theorem kd_W_law_930 : decode kc_W_law 930 = .ok (.iadd, 1) := by decide +kernel
theorem kd_W_law_931 : decode kc_W_law 931 = .ok (.iaload, 1) := by decide +kernel
theorem kd_W_law_932 : decode kc_W_law 932 = .ok (.ifCond .eq 7, 3) := by decide +kernel
theorem kd_W_law_935 : decode kc_W_law 935 = .ok (.iconst 1, 1) := by decide +kernel
theorem kd_W_law_936 : decode kc_W_law 936 = .ok (.goto 4, 3) := by decide +kernel
theorem kd_W_law_939 : decode kc_W_law 939 = .ok (.iconst 0, 1) := by decide +kernel
theorem kd_W_law_940 : decode kc_W_law 940 = .ok (.invokevirtual 159, 3) := by decide +kernel
theorem kd_W_law_943 : decode kc_W_law 943 = .ok (.istore 6, 2) := by decide +kernel
theorem kd_W_law_945 : decode kc_W_law 945 = .ok (.goto 459, 3) := by decide +kernel
theorem kd_W_law_948 : decode kc_W_law 948 = .ok (.aload_n 1, 1) := by decide +kernel
theorem kd_W_law_949 : decode kc_W_law 949 = .ok (.aload_n 0, 1) := by decide +kernel
theorem kd_W_law_950 : decode kc_W_law 950 = .ok (.iload 4, 2) := by decide +kernel
theorem kd_W_law_952 : decode kc_W_law 952 = .ok (.iconst 1, 1) := by decide +kernel
theorem kd_W_law_953 : decode kc_W_law 953 = .ok (.iadd, 1) := by decide +kernel
theorem kd_W_law_954 : decode kc_W_law 954 = .ok (.iaload, 1) := by decide +kernel
theorem kd_W_law_955 : decode kc_W_law 955 = .ok (.aload_n 0, 1) := by decide +kernel
theorem kd_W_law_956 : decode kc_W_law 956 = .ok (.iload 4, 2) := by decide +kernel
theorem kd_W_law_958 : decode kc_W_law 958 = .ok (.iconst 2, 1) := by decide +kernel
theorem kd_W_law_959 : decode kc_W_law 959 = .ok (.iadd, 1) := by decide +kernel
theorem kd_W_law_960 : decode kc_W_law 960 = .ok (.iaload, 1) := by decide +kernel
theorem kd_W_law_961 : decode kc_W_law 961 = .ok (.aload_n 0, 1) := by decide +kernel
theorem kd_W_law_962 : decode kc_W_law 962 = .ok (.iload 4, 2) := by decide +kernel
theorem kd_W_law_964 : decode kc_W_law 964 = .ok (.iconst 3, 1) := by decide +kernel
theorem kd_W_law_965 : decode kc_W_law 965 = .ok (.iadd, 1) := by decide +kernel
theorem kd_W_law_966 : decode kc_W_law 966 = .ok (.iaload, 1) := by decide +kernel
theorem kd_W_law_967 : decode kc_W_law 967 = .ok (.invokestatic 160, 3) := by decide +kernel
theorem kd_W_law_970 : decode kc_W_law 970 = .ok (.istore 5, 2) := by decide +kernel
theorem kd_W_law_972 : decode kc_W_law 972 = .ok (.aload_n 2, 1) := by decide +kernel
theorem kd_W_law_973 : decode kc_W_law 973 = .ok (.aload_n 0, 1) := by decide +kernel
theorem kd_W_law_974 : decode kc_W_law 974 = .ok (.iload 4, 2) := by decide +kernel
theorem kd_W_law_976 : decode kc_W_law 976 = .ok (.iconst 1, 1) := by decide +kernel
theorem kd_W_law_977 : decode kc_W_law 977 = .ok (.iadd, 1) := by decide +kernel
theorem kd_W_law_978 : decode kc_W_law 978 = .ok (.iaload, 1) := by decide +kernel
theorem kd_W_law_979 : decode kc_W_law 979 = .ok (.aload_n 0, 1) := by decide +kernel
theorem kd_W_law_980 : decode kc_W_law 980 = .ok (.iload 4, 2) := by decide +kernel
theorem kd_W_law_982 : decode kc_W_law 982 = .ok (.iconst 2, 1) := by decide +kernel
theorem kd_W_law_983 : decode kc_W_law 983 = .ok (.iadd, 1) := by decide +kernel
theorem kd_W_law_984 : decode kc_W_law 984 = .ok (.iaload, 1) := by decide +kernel
theorem kd_W_law_985 : decode kc_W_law 985 = .ok (.aload_n 0, 1) := by decide +kernel
theorem kd_W_law_986 : decode kc_W_law 986 = .ok (.iload 4, 2) := by decide +kernel
theorem kd_W_law_988 : decode kc_W_law 988 = .ok (.iconst 3, 1) := by decide +kernel
theorem kd_W_law_989 : decode kc_W_law 989 = .ok (.iadd, 1) := by decide +kernel
theorem kd_W_law_990 : decode kc_W_law 990 = .ok (.iaload, 1) := by decide +kernel
theorem kd_W_law_991 : decode kc_W_law 991 = .ok (.invokevirtual 162, 3) := by decide +kernel
theorem kd_W_law_994 : decode kc_W_law 994 = .ok (.aload_n 2, 1) := by decide +kernel
theorem kd_W_law_995 : decode kc_W_law 995 = .ok (.invokevirtual 163, 3) := by decide +kernel
theorem kd_W_law_998 : decode kc_W_law 998 = .ok (.iload 5, 2) := by decide +kernel
theorem kd_W_law_1000 : decode kc_W_law 1000 = .ok (.if_icmp .eq 5, 3) := by decide +kernel
theorem kd_W_law_1003 : decode kc_W_law 1003 = .ok (.iconst 0, 1) := by decide +kernel
theorem kd_W_law_1004 : decode kc_W_law 1004 = .ok (.ireturn, 1) := by decide +kernel
theorem kd_W_law_1005 : decode kc_W_law 1005 = .ok (.goto 399, 3) := by decide +kernel
theorem kd_W_law_1008 : decode kc_W_law 1008 = .ok (.aload_n 1, 1) := by decide +kernel
theorem kd_W_law_1009 : decode kc_W_law 1009 = .ok (.aload_n 0, 1) := by decide +kernel
theorem kd_W_law_1010 : decode kc_W_law 1010 = .ok (.iload 4, 2) := by decide +kernel
theorem kd_W_law_1012 : decode kc_W_law 1012 = .ok (.iconst 1, 1) := by decide +kernel
theorem kd_W_law_1013 : decode kc_W_law 1013 = .ok (.iadd, 1) := by decide +kernel
theorem kd_W_law_1014 : decode kc_W_law 1014 = .ok (.iaload, 1) := by decide +kernel
theorem kd_W_law_1015 : decode kc_W_law 1015 = .ok (.aload_n 0, 1) := by decide +kernel
theorem kd_W_law_1016 : decode kc_W_law 1016 = .ok (.iload 4, 2) := by decide +kernel
theorem kd_W_law_1018 : decode kc_W_law 1018 = .ok (.iconst 2, 1) := by decide +kernel
theorem kd_W_law_1019 : decode kc_W_law 1019 = .ok (.iadd, 1) := by decide +kernel
theorem kd_W_law_1020 : decode kc_W_law 1020 = .ok (.iaload, 1) := by decide +kernel
theorem kd_W_law_1021 : decode kc_W_law 1021 = .ok (.aload_n 0, 1) := by decide +kernel
theorem kd_W_law_1022 : decode kc_W_law 1022 = .ok (.iload 4, 2) := by decide +kernel
theorem kd_W_law_1024 : decode kc_W_law 1024 = .ok (.iconst 3, 1) := by decide +kernel
theorem kd_W_law_1025 : decode kc_W_law 1025 = .ok (.iadd, 1) := by decide +kernel
theorem kd_W_law_1026 : decode kc_W_law 1026 = .ok (.iaload, 1) := by decide +kernel
theorem kd_W_law_1027 : decode kc_W_law 1027 = .ok (.aload_n 3, 1) := by decide +kernel
theorem kd_W_law_1028 : decode kc_W_law 1028 = .ok (.invokestatic 167, 3) := by decide +kernel
theorem kd_W_law_1031 : decode kc_W_law 1031 = .ok (.istore 5, 2) := by decide +kernel
theorem kd_W_law_1033 : decode kc_W_law 1033 = .ok (.aload_n 2, 1) := by decide +kernel
theorem kd_W_law_1034 : decode kc_W_law 1034 = .ok (.aload_n 0, 1) := by decide +kernel
theorem kd_W_law_1035 : decode kc_W_law 1035 = .ok (.iload 4, 2) := by decide +kernel
theorem kd_W_law_1037 : decode kc_W_law 1037 = .ok (.iconst 1, 1) := by decide +kernel
theorem kd_W_law_1038 : decode kc_W_law 1038 = .ok (.iadd, 1) := by decide +kernel
theorem kd_W_law_1039 : decode kc_W_law 1039 = .ok (.iaload, 1) := by decide +kernel
theorem kd_W_law_1040 : decode kc_W_law 1040 = .ok (.aload_n 0, 1) := by decide +kernel
theorem kd_W_law_1041 : decode kc_W_law 1041 = .ok (.iload 4, 2) := by decide +kernel
theorem kd_W_law_1043 : decode kc_W_law 1043 = .ok (.iconst 2, 1) := by decide +kernel
theorem kd_W_law_1044 : decode kc_W_law 1044 = .ok (.iadd, 1) := by decide +kernel
theorem kd_W_law_1045 : decode kc_W_law 1045 = .ok (.iaload, 1) := by decide +kernel
theorem kd_W_law_1046 : decode kc_W_law 1046 = .ok (.aload_n 0, 1) := by decide +kernel
theorem kd_W_law_1047 : decode kc_W_law 1047 = .ok (.iload 4, 2) := by decide +kernel
theorem kd_W_law_1049 : decode kc_W_law 1049 = .ok (.iconst 3, 1) := by decide +kernel
theorem kd_W_law_1050 : decode kc_W_law 1050 = .ok (.iadd, 1) := by decide +kernel
theorem kd_W_law_1051 : decode kc_W_law 1051 = .ok (.iaload, 1) := by decide +kernel
theorem kd_W_law_1052 : decode kc_W_law 1052 = .ok (.invokevirtual 169, 3) := by decide +kernel
theorem kd_W_law_1055 : decode kc_W_law 1055 = .ok (.lstore 6, 2) := by decide +kernel
theorem kd_W_law_1057 : decode kc_W_law 1057 = .ok (.goto 347, 3) := by decide +kernel
theorem kd_W_law_1060 : decode kc_W_law 1060 = .ok (.aload_n 1, 1) := by decide +kernel
theorem kd_W_law_1061 : decode kc_W_law 1061 = .ok (.aload_n 0, 1) := by decide +kernel
theorem kd_W_law_1062 : decode kc_W_law 1062 = .ok (.iload 4, 2) := by decide +kernel
theorem kd_W_law_1064 : decode kc_W_law 1064 = .ok (.iconst 1, 1) := by decide +kernel
theorem kd_W_law_1065 : decode kc_W_law 1065 = .ok (.iadd, 1) := by decide +kernel
theorem kd_W_law_1066 : decode kc_W_law 1066 = .ok (.iaload, 1) := by decide +kernel
theorem kd_W_law_1067 : decode kc_W_law 1067 = .ok (.aload_n 3, 1) := by decide +kernel
theorem kd_W_law_1068 : decode kc_W_law 1068 = .ok (.invokestatic 170, 3) := by decide +kernel
theorem kd_W_law_1071 : decode kc_W_law 1071 = .ok (.istore 5, 2) := by decide +kernel
theorem kd_W_law_1073 : decode kc_W_law 1073 = .ok (.aload_n 2, 1) := by decide +kernel
theorem kd_W_law_1074 : decode kc_W_law 1074 = .ok (.aload_n 0, 1) := by decide +kernel
theorem kd_W_law_1075 : decode kc_W_law 1075 = .ok (.iload 4, 2) := by decide +kernel
theorem kd_W_law_1077 : decode kc_W_law 1077 = .ok (.iconst 1, 1) := by decide +kernel
theorem kd_W_law_1078 : decode kc_W_law 1078 = .ok (.iadd, 1) := by decide +kernel
theorem kd_W_law_1079 : decode kc_W_law 1079 = .ok (.iaload, 1) := by decide +kernel
theorem kd_W_law_1080 : decode kc_W_law 1080 = .ok (.invokevirtual 172, 3) := by decide +kernel
theorem kd_W_law_1083 : decode kc_W_law 1083 = .ok (.lstore 6, 2) := by decide +kernel
theorem kd_W_law_1085 : decode kc_W_law 1085 = .ok (.goto 319, 3) := by decide +kernel
theorem kd_W_law_1088 : decode kc_W_law 1088 = .ok (.aload_n 1, 1) := by decide +kernel
theorem kd_W_law_1089 : decode kc_W_law 1089 = .ok (.aload_n 0, 1) := by decide +kernel
theorem kd_W_law_1090 : decode kc_W_law 1090 = .ok (.iload 4, 2) := by decide +kernel
theorem kd_W_law_1092 : decode kc_W_law 1092 = .ok (.iconst 1, 1) := by decide +kernel
theorem kd_W_law_1093 : decode kc_W_law 1093 = .ok (.iadd, 1) := by decide +kernel
theorem kd_W_law_1094 : decode kc_W_law 1094 = .ok (.iaload, 1) := by decide +kernel
theorem kd_W_law_1095 : decode kc_W_law 1095 = .ok (.aload_n 0, 1) := by decide +kernel
theorem kd_W_law_1096 : decode kc_W_law 1096 = .ok (.iload 4, 2) := by decide +kernel
theorem kd_W_law_1098 : decode kc_W_law 1098 = .ok (.iconst 2, 1) := by decide +kernel
theorem kd_W_law_1099 : decode kc_W_law 1099 = .ok (.iadd, 1) := by decide +kernel
theorem kd_W_law_1100 : decode kc_W_law 1100 = .ok (.iaload, 1) := by decide +kernel
theorem kd_W_law_1101 : decode kc_W_law 1101 = .ok (.aload_n 0, 1) := by decide +kernel
theorem kd_W_law_1102 : decode kc_W_law 1102 = .ok (.iload 4, 2) := by decide +kernel
theorem kd_W_law_1104 : decode kc_W_law 1104 = .ok (.iconst 3, 1) := by decide +kernel
theorem kd_W_law_1105 : decode kc_W_law 1105 = .ok (.iadd, 1) := by decide +kernel
theorem kd_W_law_1106 : decode kc_W_law 1106 = .ok (.iaload, 1) := by decide +kernel
theorem kd_W_law_1107 : decode kc_W_law 1107 = .ok (.aload_n 0, 1) := by decide +kernel
theorem kd_W_law_1108 : decode kc_W_law 1108 = .ok (.iload 4, 2) := by decide +kernel
theorem kd_W_law_1110 : decode kc_W_law 1110 = .ok (.iconst 4, 1) := by decide +kernel
theorem kd_W_law_1111 : decode kc_W_law 1111 = .ok (.iadd, 1) := by decide +kernel
theorem kd_W_law_1112 : decode kc_W_law 1112 = .ok (.iaload, 1) := by decide +kernel
theorem kd_W_law_1113 : decode kc_W_law 1113 = .ok (.aload_n 3, 1) := by decide +kernel
theorem kd_W_law_1114 : decode kc_W_law 1114 = .ok (.invokestatic 173, 3) := by decide +kernel
theorem kd_W_law_1117 : decode kc_W_law 1117 = .ok (.istore 5, 2) := by decide +kernel
theorem kd_W_law_1119 : decode kc_W_law 1119 = .ok (.aload_n 2, 1) := by decide +kernel
theorem kd_W_law_1120 : decode kc_W_law 1120 = .ok (.aload_n 0, 1) := by decide +kernel
theorem kd_W_law_1121 : decode kc_W_law 1121 = .ok (.iload 4, 2) := by decide +kernel
theorem kd_W_law_1123 : decode kc_W_law 1123 = .ok (.iconst 1, 1) := by decide +kernel
theorem kd_W_law_1124 : decode kc_W_law 1124 = .ok (.iadd, 1) := by decide +kernel
theorem kd_W_law_1125 : decode kc_W_law 1125 = .ok (.iaload, 1) := by decide +kernel
theorem kd_W_law_1126 : decode kc_W_law 1126 = .ok (.aload_n 0, 1) := by decide +kernel
theorem kd_W_law_1127 : decode kc_W_law 1127 = .ok (.iload 4, 2) := by decide +kernel
theorem kd_W_law_1129 : decode kc_W_law 1129 = .ok (.iconst 2, 1) := by decide +kernel
theorem kd_W_law_1130 : decode kc_W_law 1130 = .ok (.iadd, 1) := by decide +kernel
theorem kd_W_law_1131 : decode kc_W_law 1131 = .ok (.iaload, 1) := by decide +kernel
theorem kd_W_law_1132 : decode kc_W_law 1132 = .ok (.aload_n 0, 1) := by decide +kernel
theorem kd_W_law_1133 : decode kc_W_law 1133 = .ok (.iload 4, 2) := by decide +kernel
theorem kd_W_law_1135 : decode kc_W_law 1135 = .ok (.iconst 3, 1) := by decide +kernel
theorem kd_W_law_1136 : decode kc_W_law 1136 = .ok (.iadd, 1) := by decide +kernel
theorem kd_W_law_1137 : decode kc_W_law 1137 = .ok (.iaload, 1) := by decide +kernel
theorem kd_W_law_1138 : decode kc_W_law 1138 = .ok (.aload_n 0, 1) := by decide +kernel
theorem kd_W_law_1139 : decode kc_W_law 1139 = .ok (.iload 4, 2) := by decide +kernel
theorem kd_W_law_1141 : decode kc_W_law 1141 = .ok (.iconst 4, 1) := by decide +kernel
theorem kd_W_law_1142 : decode kc_W_law 1142 = .ok (.iadd, 1) := by decide +kernel
theorem kd_W_law_1143 : decode kc_W_law 1143 = .ok (.iaload, 1) := by decide +kernel
theorem kd_W_law_1144 : decode kc_W_law 1144 = .ok (.invokevirtual 175, 3) := by decide +kernel
theorem kd_W_law_1147 : decode kc_W_law 1147 = .ok (.lstore 6, 2) := by decide +kernel
theorem kd_W_law_1149 : decode kc_W_law 1149 = .ok (.goto 255, 3) := by decide +kernel
theorem kd_W_law_1152 : decode kc_W_law 1152 = .ok (.aload_n 1, 1) := by decide +kernel
theorem kd_W_law_1153 : decode kc_W_law 1153 = .ok (.aload_n 0, 1) := by decide +kernel
