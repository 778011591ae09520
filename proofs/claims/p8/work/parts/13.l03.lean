theorem kd_W_law_806 : decode kc_W_law 806 = .ok (.iadd, 1) := by decide +kernel
theorem kd_W_law_807 : decode kc_W_law 807 = .ok (.iaload, 1) := by decide +kernel
theorem kd_W_law_808 : decode kc_W_law 808 = .ok (.invokevirtual 156, 3) := by decide +kernel
theorem kd_W_law_811 : decode kc_W_law 811 = .ok (.istore 6, 2) := by decide +kernel
theorem kd_W_law_813 : decode kc_W_law 813 = .ok (.goto 608, 3) := by decide +kernel
theorem kd_W_law_816 : decode kc_W_law 816 = .ok (.aload_n 1, 1) := by decide +kernel
theorem kd_W_law_817 : decode kc_W_law 817 = .ok (.aload_n 0, 1) := by decide +kernel
theorem kd_W_law_818 : decode kc_W_law 818 = .ok (.iload 4, 2) := by decide +kernel
theorem kd_W_law_820 : decode kc_W_law 820 = .ok (.iconst 1, 1) := by decide +kernel
theorem kd_W_law_821 : decode kc_W_law 821 = .ok (.iadd, 1) := by decide +kernel
theorem kd_W_law_822 : decode kc_W_law 822 = .ok (.iaload, 1) := by decide +kernel
theorem kd_W_law_823 : decode kc_W_law 823 = .ok (.aload_n 0, 1) := by decide +kernel
theorem kd_W_law_824 : decode kc_W_law 824 = .ok (.iload 4, 2) := by decide +kernel
theorem kd_W_law_826 : decode kc_W_law 826 = .ok (.iconst 2, 1) := by decide +kernel
theorem kd_W_law_827 : decode kc_W_law 827 = .ok (.iadd, 1) := by decide +kernel
theorem kd_W_law_828 : decode kc_W_law 828 = .ok (.iaload, 1) := by decide +kernel
theorem kd_W_law_829 : decode kc_W_law 829 = .ok (.aload_n 3, 1) := by decide +kernel
theorem kd_W_law_830 : decode kc_W_law 830 = .ok (.invokestatic 157, 3) := by decide +kernel
theorem kd_W_law_833 : decode kc_W_law 833 = .ok (.istore 5, 2) := by decide +kernel
theorem kd_W_law_835 : decode kc_W_law 835 = .ok (.aload_n 2, 1) := by decide +kernel
theorem kd_W_law_836 : decode kc_W_law 836 = .ok (.aload_n 0, 1) := by decide +kernel
theorem kd_W_law_837 : decode kc_W_law 837 = .ok (.iload 4, 2) := by decide +kernel
theorem kd_W_law_839 : decode kc_W_law 839 = .ok (.iconst 1, 1) := by decide +kernel
theorem kd_W_law_840 : decode kc_W_law 840 = .ok (.iadd, 1) := by decide +kernel
theorem kd_W_law_841 : decode kc_W_law 841 = .ok (.iaload, 1) := by decide +kernel
theorem kd_W_law_842 : decode kc_W_law 842 = .ok (.aload_n 0, 1) := by decide +kernel
theorem kd_W_law_843 : decode kc_W_law 843 = .ok (.iload 4, 2) := by decide +kernel
theorem kd_W_law_845 : decode kc_W_law 845 = .ok (.iconst 2, 1) := by decide +kernel
theorem kd_W_law_846 : decode kc_W_law 846 = .ok (.iadd, 1) := by decide +kernel
theorem kd_W_law_847 : decode kc_W_law 847 = .ok (.iaload, 1) := by decide +kernel
theorem kd_W_law_848 : decode kc_W_law 848 = .ok (.invokevirtual 159, 3) := by decide +kernel
theorem kd_W_law_851 : decode kc_W_law 851 = .ok (.istore 6, 2) := by decide +kernel
theorem kd_W_law_853 : decode kc_W_law 853 = .ok (.goto 568, 3) := by decide +kernel
theorem kd_W_law_856 : decode kc_W_law 856 = .ok (.aload_n 1, 1) := by decide +kernel
theorem kd_W_law_857 : decode kc_W_law 857 = .ok (.aload_n 0, 1) := by decide +kernel
theorem kd_W_law_858 : decode kc_W_law 858 = .ok (.iload 4, 2) := by decide +kernel
theorem kd_W_law_860 : decode kc_W_law 860 = .ok (.iconst 1, 1) := by decide +kernel
theorem kd_W_law_861 : decode kc_W_law 861 = .ok (.iadd, 1) := by decide +kernel
theorem kd_W_law_862 : decode kc_W_law 862 = .ok (.iaload, 1) := by decide +kernel
theorem kd_W_law_863 : decode kc_W_law 863 = .ok (.aload_n 0, 1) := by decide +kernel
theorem kd_W_law_864 : decode kc_W_law 864 = .ok (.iload 4, 2) := by decide +kernel
theorem kd_W_law_866 : decode kc_W_law 866 = .ok (.iconst 2, 1) := by decide +kernel
theorem kd_W_law_867 : decode kc_W_law 867 = .ok (.iadd, 1) := by decide +kernel
theorem kd_W_law_868 : decode kc_W_law 868 = .ok (.iaload, 1) := by decide +kernel
theorem kd_W_law_869 : decode kc_W_law 869 = .ok (.aload_n 0, 1) := by decide +kernel
theorem kd_W_law_870 : decode kc_W_law 870 = .ok (.iload 4, 2) := by decide +kernel
theorem kd_W_law_872 : decode kc_W_law 872 = .ok (.iconst 3, 1) := by decide +kernel
theorem kd_W_law_873 : decode kc_W_law 873 = .ok (.iadd, 1) := by decide +kernel
theorem kd_W_law_874 : decode kc_W_law 874 = .ok (.iaload, 1) := by decide +kernel
theorem kd_W_law_875 : decode kc_W_law 875 = .ok (.aload_n 0, 1) := by decide +kernel
theorem kd_W_law_876 : decode kc_W_law 876 = .ok (.iload 4, 2) := by decide +kernel
theorem kd_W_law_878 : decode kc_W_law 878 = .ok (.iconst 4, 1) := by decide +kernel
theorem kd_W_law_879 : decode kc_W_law 879 = .ok (.iadd, 1) := by decide +kernel
theorem kd_W_law_880 : decode kc_W_law 880 = .ok (.iaload, 1) := by decide +kernel
theorem kd_W_law_881 : decode kc_W_law 881 = .ok (.aload_n 0, 1) := by decide +kernel
theorem kd_W_law_882 : decode kc_W_law 882 = .ok (.iload 4, 2) := by decide +kernel
theorem kd_W_law_884 : decode kc_W_law 884 = .ok (.iconst 5, 1) := by decide +kernel
theorem kd_W_law_885 : decode kc_W_law 885 = .ok (.iadd, 1) := by decide +kernel
theorem kd_W_law_886 : decode kc_W_law 886 = .ok (.iaload, 1) := by decide +kernel
theorem kd_W_law_887 : decode kc_W_law 887 = .ok (.aload_n 0, 1) := by decide +kernel
theorem kd_W_law_888 : decode kc_W_law 888 = .ok (.iload 4, 2) := by decide +kernel
theorem kd_W_law_890 : decode kc_W_law 890 = .ok (.bipush 6, 2) := by decide +kernel
theorem kd_W_law_892 : decode kc_W_law 892 = .ok (.iadd, 1) := by decide +kernel
theorem kd_W_law_893 : decode kc_W_law 893 = .ok (.iaload, 1) := by decide +kernel
theorem kd_W_law_894 : decode kc_W_law 894 = .ok (.aload_n 0, 1) := by decide +kernel
theorem kd_W_law_895 : decode kc_W_law 895 = .ok (.iload 4, 2) := by decide +kernel
theorem kd_W_law_897 : decode kc_W_law 897 = .ok (.bipush 7, 2) := by decide +kernel
theorem kd_W_law_899 : decode kc_W_law 899 = .ok (.iadd, 1) := by decide +kernel
theorem kd_W_law_900 : decode kc_W_law 900 = .ok (.iaload, 1) := by decide +kernel
theorem kd_W_law_901 : decode kc_W_law 901 = .ok (.ifCond .eq 7, 3) := by decide +kernel
theorem kd_W_law_904 : decode kc_W_law 904 = .ok (.iconst 1, 1) := by decide +kernel
theorem kd_W_law_905 : decode kc_W_law 905 = .ok (.goto 4, 3) := by decide +kernel
theorem kd_W_law_908 : decode kc_W_law 908 = .ok (.iconst 0, 1) := by decide +kernel
theorem kd_W_law_909 : decode kc_W_law 909 = .ok (.aload_n 3, 1) := by decide +kernel
theorem kd_W_law_910 : decode kc_W_law 910 = .ok (.invokestatic 160, 3) := by decide +kernel
theorem kd_W_law_913 : decode kc_W_law 913 = .ok (.istore 5, 2) := by decide +kernel
theorem kd_W_law_915 : decode kc_W_law 915 = .ok (.aload_n 2, 1) := by decide +kernel
theorem kd_W_law_916 : decode kc_W_law 916 = .ok (.aload_n 0, 1) := by decide +kernel
theorem kd_W_law_917 : decode kc_W_law 917 = .ok (.iload 4, 2) := by decide +kernel
theorem kd_W_law_919 : decode kc_W_law 919 = .ok (.iconst 1, 1) := by decide +kernel
theorem kd_W_law_920 : decode kc_W_law 920 = .ok (.iadd, 1) := by decide +kernel
theorem kd_W_law_921 : decode kc_W_law 921 = .ok (.iaload, 1) := by decide +kernel
theorem kd_W_law_922 : decode kc_W_law 922 = .ok (.aload_n 0, 1) := by decide +kernel
theorem kd_W_law_923 : decode kc_W_law 923 = .ok (.iload 4, 2) := by decide +kernel
theorem kd_W_law_925 : decode kc_W_law 925 = .ok (.iconst 2, 1) := by decide +kernel
theorem kd_W_law_926 : decode kc_W_law 926 = .ok (.iadd, 1) := by decide +kernel
theorem kd_W_law_927 : decode kc_W_law 927 = .ok (.iaload, 1) := by decide +kernel
theorem kd_W_law_928 : decode kc_W_law 928 = .ok (.aload_n 0, 1) := by decide +kernel
theorem kd_W_law_929 : decode kc_W_law 929 = .ok (.iload 4, 2) := by decide +kernel
theorem kd_W_law_931 : decode kc_W_law 931 = .ok (.iconst 3, 1) := by decide +kernel
theorem kd_W_law_932 : decode kc_W_law 932 = .ok (.iadd, 1) := by decide +kernel
theorem kd_W_law_933 : decode kc_W_law 933 = .ok (.iaload, 1) := by decide +kernel
theorem kd_W_law_934 : decode kc_W_law 934 = .ok (.aload_n 0, 1) := by decide +kernel
theorem kd_W_law_935 : decode kc_W_law 935 = .ok (.iload 4, 2) := by decide +kernel
theorem kd_W_law_937 : decode kc_W_law 937 = .ok (.iconst 4, 1) := by decide +kernel
theorem kd_W_law_938 : decode kc_W_law 938 = .ok (.iadd, 1) := by decide +kernel
theorem kd_W_law_939 : decode kc_W_law 939 = .ok (.iaload, 1) := by decide +kernel
theorem kd_W_law_940 : decode kc_W_law 940 = .ok (.aload_n 0, 1) := by decide +kernel
theorem kd_W_law_941 : decode kc_W_law 941 = .ok (.iload 4, 2) := by decide +kernel
theorem kd_W_law_943 : decode kc_W_law 943 = .ok (.iconst 5, 1) := by decide +kernel
theorem kd_W_law_944 : decode kc_W_law 944 = .ok (.iadd, 1) := by decide +kernel
theorem kd_W_law_945 : decode kc_W_law 945 = .ok (.iaload, 1) := by decide +kernel
theorem kd_W_law_946 : decode kc_W_law 946 = .ok (.aload_n 0, 1) := by decide +kernel
theorem kd_W_law_947 : decode kc_W_law 947 = .ok (.iload 4, 2) := by decide +kernel
theorem kd_W_law_949 : decode kc_W_law 949 = .ok (.bipush 6, 2) := by decide +kernel
theorem kd_W_law_951 : decode kc_W_law 951 = .ok (.iadd, 1) := by decide +kernel
theorem kd_W_law_952 : decode kc_W_law 952 = .ok (.iaload, 1) := by decide +kernel
theorem kd_W_law_953 : decode kc_W_law 953 = .ok (.aload_n 0, 1) := by decide +kernel
theorem kd_W_law_954 : decode kc_W_law 954 = .ok (.iload 4, 2) := by decide +kernel
theorem kd_W_law_956 : decode kc_W_law 956 = .ok (.bipush 7, 2) := by decide +kernel
theorem kd_W_law_958 : decode kc_W_law 958 = .ok (.iadd, 1) := by decide +kernel
theorem kd_W_law_959 : decode kc_W_law 959 = .ok (.iaload, 1) := by decide +kernel
theorem kd_W_law_960 : decode kc_W_law 960 = .ok (.ifCond .eq 7, 3) := by decide +kernel
theorem kd_W_law_963 : decode kc_W_law 963 = .ok (.iconst 1, 1) := by decide +kernel
theorem kd_W_law_964 : decode kc_W_law 964 = .ok (.goto 4, 3) := by decide +kernel
theorem kd_W_law_967 : decode kc_W_law 967 = .ok (.iconst 0, 1) := by decide +kernel
theorem kd_W_law_968 : decode kc_W_law 968 = .ok (.invokevirtual 163, 3) := by decide +kernel
theorem kd_W_law_971 : decode kc_W_law 971 = .ok (.istore 6, 2) := by decide +kernel
theorem kd_W_law_973 : decode kc_W_law 973 = .ok (.goto 448, 3) := by decide +kernel
theorem kd_W_law_976 : decode kc_W_law 976 = .ok (.aload_n 1, 1) := by decide +kernel
theorem kd_W_law_977 : decode kc_W_law 977 = .ok (.aload_n 0, 1) := by decide +kernel
theorem kd_W_law_978 : decode kc_W_law 978 = .ok (.iload 4, 2) := by decide +kernel
theorem kd_W_law_980 : decode kc_W_law 980 = .ok (.iconst 1, 1) := by decide +kernel
theorem kd_W_law_981 : decode kc_W_law 981 = .ok (.iadd, 1) := by decide +kernel
theorem kd_W_law_982 : decode kc_W_law 982 = .ok (.iaload, 1) := by decide +kernel
theorem kd_W_law_983 : decode kc_W_law 983 = .ok (.aload_n 0, 1) := by decide +kernel
theorem kd_W_law_984 : decode kc_W_law 984 = .ok (.iload 4, 2) := by decide +kernel
theorem kd_W_law_986 : decode kc_W_law 986 = .ok (.iconst 2, 1) := by decide +kernel
theorem kd_W_law_987 : decode kc_W_law 987 = .ok (.iadd, 1) := by decide +kernel
theorem kd_W_law_988 : decode kc_W_law 988 = .ok (.iaload, 1) := by decide +kernel
theorem kd_W_law_989 : decode kc_W_law 989 = .ok (.aload_n 0, 1) := by decide +kernel
theorem kd_W_law_990 : decode kc_W_law 990 = .ok (.iload 4, 2) := by decide +kernel
theorem kd_W_law_992 : decode kc_W_law 992 = .ok (.iconst 3, 1) := by decide +kernel
theorem kd_W_law_993 : decode kc_W_law 993 = .ok (.iadd, 1) := by decide +kernel
theorem kd_W_law_994 : decode kc_W_law 994 = .ok (.iaload, 1) := by decide +kernel
theorem kd_W_law_995 : decode kc_W_law 995 = .ok (.invokestatic 164, 3) := by decide +kernel
theorem kd_W_law_998 : decode kc_W_law 998 = .ok (.istore 5, 2) := by decide +kernel
theorem kd_W_law_1000 : decode kc_W_law 1000 = .ok (.aload_n 2, 1) := by decide +kernel
theorem kd_W_law_1001 : decode kc_W_law 1001 = .ok (.aload_n 0, 1) := by decide +kernel
theorem kd_W_law_1002 : decode kc_W_law 1002 = .ok (.iload 4, 2) := by decide +kernel
theorem kd_W_law_1004 : decode kc_W_law 1004 = .ok (.iconst 1, 1) := by decide +kernel
theorem kd_W_law_1005 : decode kc_W_law 1005 = .ok (.iadd, 1) := by decide +kernel
theorem kd_W_law_1006 : decode kc_W_law 1006 = .ok (.iaload, 1) := by decide +kernel
theorem kd_W_law_1007 : decode kc_W_law 1007 = .ok (.aload_n 0, 1) := by decide +kernel
theorem kd_W_law_1008 : decode kc_W_law 1008 = .ok (.iload 4, 2) := by decide +kernel
theorem kd_W_law_1010 : decode kc_W_law 1010 = .ok (.iconst 2, 1) := by decide +kernel
theorem kd_W_law_1011 : decode kc_W_law 1011 = .ok (.iadd, 1) := by decide +kernel
theorem kd_W_law_1012 : decode kc_W_law 1012 = .ok (.iaload, 1) := by decide +kernel
theorem kd_W_law_1013 : decode kc_W_law 1013 = .ok (.aload_n 0, 1) := by decide +kernel
theorem kd_W_law_1014 : decode kc_W_law 1014 = .ok (.iload 4, 2) := by decide +kernel
theorem kd_W_law_1016 : decode kc_W_law 1016 = .ok (.iconst 3, 1) := by decide +kernel
theorem kd_W_law_1017 : decode kc_W_law 1017 = .ok (.iadd, 1) := by decide +kernel
theorem kd_W_law_1018 : decode kc_W_law 1018 = .ok (.iaload, 1) := by decide +kernel
theorem kd_W_law_1019 : decode kc_W_law 1019 = .ok (.invokevirtual 166, 3) := by decide +kernel
theorem kd_W_law_1022 : decode kc_W_law 1022 = .ok (.goto 399, 3) := by decide +kernel
theorem kd_W_law_1025 : decode kc_W_law 1025 = .ok (.aload_n 1, 1) := by decide +kernel
theorem kd_W_law_1026 : decode kc_W_law 1026 = .ok (.aload_n 0, 1) := by decide +kernel
theorem kd_W_law_1027 : decode kc_W_law 1027 = .ok (.iload 4, 2) := by decide +kernel
theorem kd_W_law_1029 : decode kc_W_law 1029 = .ok (.iconst 1, 1) := by decide +kernel
theorem kd_W_law_1030 : decode kc_W_law 1030 = .ok (.iadd, 1) := by decide +kernel
theorem kd_W_law_1031 : decode kc_W_law 1031 = .ok (.iaload, 1) := by decide +kernel
theorem kd_W_law_1032 : decode kc_W_law 1032 = .ok (.aload_n 0, 1) := by decide +kernel
theorem kd_W_law_1033 : decode kc_W_law 1033 = .ok (.iload 4, 2) := by decide +kernel
theorem kd_W_law_1035 : decode kc_W_law 1035 = .ok (.iconst 2, 1) := by decide +kernel
theorem kd_W_law_1036 : decode kc_W_law 1036 = .ok (.iadd, 1) := by decide +kernel
theorem kd_W_law_1037 : decode kc_W_law 1037 = .ok (.iaload, 1) := by decide +kernel
theorem kd_W_law_1038 : decode kc_W_law 1038 = .ok (.aload_n 0, 1) := by decide +kernel
theorem kd_W_law_1039 : decode kc_W_law 1039 = .ok (.iload 4, 2) := by decide +kernel
theorem kd_W_law_1041 : decode kc_W_law 1041 = .ok (.iconst 3, 1) := by decide +kernel
theorem kd_W_law_1042 : decode kc_W_law 1042 = .ok (.iadd, 1) := by decide +kernel
theorem kd_W_law_1043 : decode kc_W_law 1043 = .ok (.iaload, 1) := by decide +kernel
theorem kd_W_law_1044 : decode kc_W_law 1044 = .ok (.aload_n 3, 1) := by decide +kernel
theorem kd_W_law_1045 : decode kc_W_law 1045 = .ok (.invokestatic 167, 3) := by decide +kernel
theorem kd_W_law_1048 : decode kc_W_law 1048 = .ok (.istore 5, 2) := by decide +kernel
theorem kd_W_law_1050 : decode kc_W_law 1050 = .ok (.aload_n 2, 1) := by decide +kernel
theorem kd_W_law_1051 : decode kc_W_law 1051 = .ok (.aload_n 0, 1) := by decide +kernel
theorem kd_W_law_1052 : decode kc_W_law 1052 = .ok (.iload 4, 2) := by decide +kernel
theorem kd_W_law_1054 : decode kc_W_law 1054 = .ok (.iconst 1, 1) := by decide +kernel
theorem kd_W_law_1055 : decode kc_W_law 1055 = .ok (.iadd, 1) := by decide +kernel
theorem kd_W_law_1056 : decode kc_W_law 1056 = .ok (.iaload, 1) := by decide +kernel
theorem kd_W_law_1057 : decode kc_W_law 1057 = .ok (.aload_n 0, 1) := by decide +kernel
theorem kd_W_law_1058 : decode kc_W_law 1058 = .ok (.iload 4, 2) := by decide +kernel
theorem kd_W_law_1060 : decode kc_W_law 1060 = .ok (.iconst 2, 1) := by decide +kernel
theorem kd_W_law_1061 : decode kc_W_law 1061 = .ok (.iadd, 1) := by decide +kernel
theorem kd_W_law_1062 : decode kc_W_law 1062 = .ok (.iaload, 1) := by decide +kernel
theorem kd_W_law_1063 : decode kc_W_law 1063 = .ok (.aload_n 0, 1) := by decide +kernel
theorem kd_W_law_1064 : decode kc_W_law 1064 = .ok (.iload 4, 2) := by decide +kernel
theorem kd_W_law_1066 : decode kc_W_law 1066 = .ok (.iconst 3, 1) := by decide +kernel
theorem kd_W_law_1067 : decode kc_W_law 1067 = .ok (.iadd, 1) := by decide +kernel
theorem kd_W_law_1068 : decode kc_W_law 1068 = .ok (.iaload, 1) := by decide +kernel
theorem kd_W_law_1069 : decode kc_W_law 1069 = .ok (.invokevirtual 169, 3) := by decide +kernel
theorem kd_W_law_1072 : decode kc_W_law 1072 = .ok (.lstore 6, 2) := by decide +kernel
theorem kd_W_law_1074 : decode kc_W_law 1074 = .ok (.goto 347, 3) := by decide +kernel
theorem kd_W_law_1077 : decode kc_W_law 1077 = .ok (.aload_n 1, 1) := by decide +kernel
theorem kd_W_law_1078 : decode kc_W_law 1078 = .ok (.aload_n 0, 1) := by decide +kernel
theorem kd_W_law_1079 : decode kc_W_law 1079 = .ok (.iload 4, 2) := by decide +kernel
theorem kd_W_law_1081 : decode kc_W_law 1081 = .ok (.iconst 1, 1) := by decide +kernel
theorem kd_W_law_1082 : decode kc_W_law 1082 = .ok (.iadd, 1) := by decide +kernel
theorem kd_W_law_1083 : decode kc_W_law 1083 = .ok (.iaload, 1) := by decide +kernel
theorem kd_W_law_1084 : decode kc_W_law 1084 = .ok (.aload_n 3, 1) := by decide +kernel
theorem kd_W_law_1085 : decode kc_W_law 1085 = .ok (.invokestatic 170, 3) := by decide +kernel
theorem kd_W_law_1088 : decode kc_W_law 1088 = .ok (.istore 5, 2) := by decide +kernel
theorem kd_W_law_1090 : decode kc_W_law 1090 = .ok (.aload_n 2, 1) := by decide +kernel
theorem kd_W_law_1091 : decode kc_W_law 1091 = .ok (.aload_n 0, 1) := by decide +kernel
theorem kd_W_law_1092 : decode kc_W_law 1092 = .ok (.iload 4, 2) := by decide +kernel
theorem kd_W_law_1094 : decode kc_W_law 1094 = .ok (.iconst 1, 1) := by decide +kernel
theorem kd_W_law_1095 : decode kc_W_law 1095 = .ok (.iadd, 1) := by decide +kernel
theorem kd_W_law_1096 : decode kc_W_law 1096 = .ok (.iaload, 1) := by decide +kernel
theorem kd_W_law_1097 : decode kc_W_law 1097 = .ok (.invokevirtual 172, 3) := by decide +kernel
theorem kd_W_law_1100 : decode kc_W_law 1100 = .ok (.lstore 6, 2) := by decide +kernel
theorem kd_W_law_1102 : decode kc_W_law 1102 = .ok (.goto 319, 3) := by decide +kernel
theorem kd_W_law_1105 : decode kc_W_law 1105 = .ok (.aload_n 1, 1) := by decide +kernel
theorem kd_W_law_1106 : decode kc_W_law 1106 = .ok (.aload_n 0, 1) := by decide +kernel
theorem kd_W_law_1107 : decode kc_W_law 1107 = .ok (.iload 4, 2) := by decide +kernel
theorem kd_W_law_1109 : decode kc_W_law 1109 = .ok (.iconst 1, 1) := by decide +kernel
theorem kd_W_law_1110 : decode kc_W_law 1110 = .ok (.iadd, 1) := by decide +kernel
theorem kd_W_law_1111 : decode kc_W_law 1111 = .ok (.iaload, 1) := by decide +kernel
theorem kd_W_law_1112 : decode kc_W_law 1112 = .ok (.aload_n 0, 1) := by decide +kernel
theorem kd_W_law_1113 : decode kc_W_law 1113 = .ok (.iload 4, 2) := by decide +kernel
theorem kd_W_law_1115 : decode kc_W_law 1115 = .ok (.iconst 2, 1) := by decide +kernel
theorem kd_W_law_1116 : decode kc_W_law 1116 = .ok (.iadd, 1) := by decide +kernel
theorem kd_W_law_1117 : decode kc_W_law 1117 = .ok (.iaload, 1) := by decide +kernel
theorem kd_W_law_1118 : decode kc_W_law 1118 = .ok (.aload_n 0, 1) := by decide +kernel
theorem kd_W_law_1119 : decode kc_W_law 1119 = .ok (.iload 4, 2) := by decide +kernel
theorem kd_W_law_1121 : decode kc_W_law 1121 = .ok (.iconst 3, 1) := by decide +kernel
theorem kd_W_law_1122 : decode kc_W_law 1122 = .ok (.iadd, 1) := by decide +kernel
theorem kd_W_law_1123 : decode kc_W_law 1123 = .ok (.iaload, 1) := by decide +kernel
theorem kd_W_law_1124 : decode kc_W_law 1124 = .ok (.aload_n 0, 1) := by decide +kernel
theorem kd_W_law_1125 : decode kc_W_law 1125 = .ok (.iload 4, 2) := by decide +kernel
theorem kd_W_law_1127 : decode kc_W_law 1127 = .ok (.iconst 4, 1) := by decide +kernel
theorem kd_W_law_1128 : decode kc_W_law 1128 = .ok (.iadd, 1) := by decide +kernel
theorem kd_W_law_1129 : decode kc_W_law 1129 = .ok (.iaload, 1) := by decide +kernel
theorem kd_W_law_1130 : decode kc_W_law 1130 = .ok (.aload_n 3, 1) := by decide +kernel
theorem kd_W_law_1131 : decode kc_W_law 1131 = .ok (.invokestatic 173, 3) := by decide +kernel
theorem kd_W_law_1134 : decode kc_W_law 1134 = .ok (.istore 5, 2) := by decide +kernel
theorem kd_W_law_1136 : decode kc_W_law 1136 = .ok (.aload_n 2, 1) := by decide +kernel
theorem kd_W_law_1137 : decode kc_W_law 1137 = .ok (.aload_n 0, 1) := by decide +kernel
theorem kd_W_law_1138 : decode kc_W_law 1138 = .ok (.iload 4, 2) := by decide +kernel
theorem kd_W_law_1140 : decode kc_W_law 1140 = .ok (.iconst 1, 1) := by decide +kernel
theorem kd_W_law_1141 : decode kc_W_law 1141 = .ok (.iadd, 1) := by decide +kernel
theorem kd_W_law_1142 : decode kc_W_law 1142 = .ok (.iaload, 1) := by decide +kernel
theorem kd_W_law_1143 : decode kc_W_law 1143 = .ok (.aload_n 0, 1) := by decide +kernel
theorem kd_W_law_1144 : decode kc_W_law 1144 = .ok (.iload 4, 2) := by decide +kernel
theorem kd_W_law_1146 : decode kc_W_law 1146 = .ok (.iconst 2, 1) := by decide +kernel
theorem kd_W_law_1147 : decode kc_W_law 1147 = .ok (.iadd, 1) := by decide +kernel
theorem kd_W_law_1148 : decode kc_W_law 1148 = .ok (.iaload, 1) := by decide +kernel
theorem kd_W_law_1149 : decode kc_W_law 1149 = .ok (.aload_n 0, 1) := by decide +kernel
theorem kd_W_law_1150 : decode kc_W_law 1150 = .ok (.iload 4, 2) := by decide +kernel
theorem kd_W_law_1152 : decode kc_W_law 1152 = .ok (.iconst 3, 1) := by decide +kernel
theorem kd_W_law_1153 : decode kc_W_law 1153 = .ok (.iadd, 1) := by decide +kernel
