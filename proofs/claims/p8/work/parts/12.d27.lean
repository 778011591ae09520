theorem kd_M_reaches_113 : decode kc_M_reaches 113 = .ok (.iload_n 2, 1) := by decide +kernel
theorem kd_M_reaches_114 : decode kc_M_reaches 114 = .ok (.baload, 1) := by decide +kernel
theorem kd_M_reaches_115 : decode kc_M_reaches 115 = .ok (.ireturn, 1) := by decide +kernel
theorem kd_M_part_0 : decode kc_M_part 0 = .ok (.iload_n 1, 1) := by decide +kernel
theorem kd_M_part_1 : decode kc_M_part 1 = .ok (.iconst 0, 1) := by decide +kernel
theorem kd_M_part_2 : decode kc_M_part 2 = .ok (.bipush 15, 2) := by decide +kernel
theorem kd_M_part_4 : decode kc_M_part 4 = .ok (.invokestatic 204, 3) := by decide +kernel
theorem kd_M_part_7 : decode kc_M_part 7 = .ok (.ifCond .eq 38, 3) := by decide +kernel
theorem kd_M_part_10 : decode kc_M_part 10 = .ok (.iload_n 2, 1) := by decide +kernel
theorem kd_M_part_11 : decode kc_M_part 11 = .ok (.iconst 0, 1) := by decide +kernel
theorem kd_M_part_12 : decode kc_M_part 12 = .ok (.bipush 15, 2) := by decide +kernel
theorem kd_M_part_14 : decode kc_M_part 14 = .ok (.invokestatic 204, 3) := by decide +kernel
theorem kd_M_part_17 : decode kc_M_part 17 = .ok (.ifCond .eq 28, 3) := by decide +kernel
theorem kd_M_part_20 : decode kc_M_part 20 = .ok (.iload_n 3, 1) := by decide +kernel
theorem kd_M_part_21 : decode kc_M_part 21 = .ok (.iconst 0, 1) := by decide +kernel
theorem kd_M_part_22 : decode kc_M_part 22 = .ok (.ldc 242, 2) := by decide +kernel
theorem kd_M_part_24 : decode kc_M_part 24 = .ok (.invokestatic 204, 3) := by decide +kernel
theorem kd_M_part_27 : decode kc_M_part 27 = .ok (.ifCond .eq 18, 3) := by decide +kernel
theorem kd_M_part_30 : decode kc_M_part 30 = .ok (.iload 4, 2) := by decide +kernel
theorem kd_M_part_32 : decode kc_M_part 32 = .ok (.iconst 0, 1) := by decide +kernel
theorem kd_M_part_33 : decode kc_M_part 33 = .ok (.bipush 7, 2) := by decide +kernel
theorem kd_M_part_35 : decode kc_M_part 35 = .ok (.invokestatic 204, 3) := by decide +kernel
theorem kd_M_part_38 : decode kc_M_part 38 = .ok (.ifCond .eq 7, 3) := by decide +kernel
theorem kd_M_part_41 : decode kc_M_part 41 = .ok (.iconst 1, 1) := by decide +kernel
theorem kd_M_part_42 : decode kc_M_part 42 = .ok (.goto 4, 3) := by decide +kernel
theorem kd_M_part_45 : decode kc_M_part 45 = .ok (.iconst 0, 1) := by decide +kernel
theorem kd_M_part_46 : decode kc_M_part 46 = .ok (.istore 5, 2) := by decide +kernel
theorem kd_M_part_48 : decode kc_M_part 48 = .ok (.aload_n 0, 1) := by decide +kernel
theorem kd_M_part_49 : decode kc_M_part 49 = .ok (.iload 5, 2) := by decide +kernel
theorem kd_M_part_51 : decode kc_M_part 51 = .ok (.ifCond .eq 12, 3) := by decide +kernel
theorem kd_M_part_54 : decode kc_M_part 54 = .ok (.aload_n 0, 1) := by decide +kernel
theorem kd_M_part_55 : decode kc_M_part 55 = .ok (.iload_n 2, 1) := by decide +kernel
theorem kd_M_part_56 : decode kc_M_part 56 = .ok (.iload_n 1, 1) := by decide +kernel
theorem kd_M_part_57 : decode kc_M_part 57 = .ok (.invokevirtual 243, 3) := by decide +kernel
theorem kd_M_part_60 : decode kc_M_part 60 = .ok (.ifCond .eq 7, 3) := by decide +kernel
theorem kd_M_part_63 : decode kc_M_part 63 = .ok (.iconst 1, 1) := by decide +kernel
theorem kd_M_part_64 : decode kc_M_part 64 = .ok (.goto 18, 3) := by decide +kernel
theorem kd_M_part_67 : decode kc_M_part 67 = .ok (.aload_n 0, 1) := by decide +kernel
theorem kd_M_part_68 : decode kc_M_part 68 = .ok (.getfield 76, 3) := by decide +kernel
theorem kd_M_part_71 : decode kc_M_part 71 = .ok (.iload_n 1, 1) := by decide +kernel
theorem kd_M_part_72 : decode kc_M_part 72 = .ok (.iaload, 1) := by decide +kernel
theorem kd_M_part_73 : decode kc_M_part 73 = .ok (.iconst 5, 1) := by decide +kernel
theorem kd_M_part_74 : decode kc_M_part 74 = .ok (.if_icmp .ne 7, 3) := by decide +kernel
theorem kd_M_part_77 : decode kc_M_part 77 = .ok (.iconst 2, 1) := by decide +kernel
theorem kd_M_part_78 : decode kc_M_part 78 = .ok (.goto 4, 3) := by decide +kernel
theorem kd_M_part_81 : decode kc_M_part 81 = .ok (.iconst 0, 1) := by decide +kernel
theorem kd_M_part_82 : decode kc_M_part 82 = .ok (.putfield 190, 3) := by decide +kernel
theorem kd_M_part_85 : decode kc_M_part 85 = .ok (.aload_n 0, 1) := by decide +kernel
theorem kd_M_part_86 : decode kc_M_part 86 = .ok (.getfield 190, 3) := by decide +kernel
theorem kd_M_part_89 : decode kc_M_part 89 = .ok (.ifCond .le 5, 3) := by decide +kernel
theorem kd_M_part_92 : decode kc_M_part 92 = .ok (.iconst 0, 1) := by decide +kernel
theorem kd_M_part_93 : decode kc_M_part 93 = .ok (.ireturn, 1) := by decide +kernel
theorem kd_M_part_94 : decode kc_M_part 94 = .ok (.iconst 5, 1) := by decide +kernel
theorem kd_M_part_95 : decode kc_M_part 95 = .ok (.iload_n 1, 1) := by decide +kernel
theorem kd_M_part_96 : decode kc_M_part 96 = .ok (.imul, 1) := by decide +kernel
theorem kd_M_part_97 : decode kc_M_part 97 = .ok (.aload_n 0, 1) := by decide +kernel
theorem kd_M_part_98 : decode kc_M_part 98 = .ok (.getfield 76, 3) := by decide +kernel
theorem kd_M_part_101 : decode kc_M_part 101 = .ok (.iload_n 1, 1) := by decide +kernel
theorem kd_M_part_102 : decode kc_M_part 102 = .ok (.iaload, 1) := by decide +kernel
theorem kd_M_part_103 : decode kc_M_part 103 = .ok (.iadd, 1) := by decide +kernel
theorem kd_M_part_104 : decode kc_M_part 104 = .ok (.istore 6, 2) := by decide +kernel
theorem kd_M_part_106 : decode kc_M_part 106 = .ok (.aload_n 0, 1) := by decide +kernel
theorem kd_M_part_107 : decode kc_M_part 107 = .ok (.getfield 79, 3) := by decide +kernel
theorem kd_M_part_110 : decode kc_M_part 110 = .ok (.iload 6, 2) := by decide +kernel
theorem kd_M_part_112 : decode kc_M_part 112 = .ok (.iload_n 2, 1) := by decide +kernel
theorem kd_M_part_113 : decode kc_M_part 113 = .ok (.iastore, 1) := by decide +kernel
theorem kd_M_part_114 : decode kc_M_part 114 = .ok (.aload_n 0, 1) := by decide +kernel
theorem kd_M_part_115 : decode kc_M_part 115 = .ok (.getfield 82, 3) := by decide +kernel
theorem kd_M_part_118 : decode kc_M_part 118 = .ok (.iload 6, 2) := by decide +kernel
theorem kd_M_part_120 : decode kc_M_part 120 = .ok (.iload_n 3, 1) := by decide +kernel
theorem kd_M_part_121 : decode kc_M_part 121 = .ok (.iastore, 1) := by decide +kernel
theorem kd_M_part_122 : decode kc_M_part 122 = .ok (.aload_n 0, 1) := by decide +kernel
theorem kd_M_part_123 : decode kc_M_part 123 = .ok (.getfield 85, 3) := by decide +kernel
theorem kd_M_part_126 : decode kc_M_part 126 = .ok (.iload 6, 2) := by decide +kernel
theorem kd_M_part_128 : decode kc_M_part 128 = .ok (.iload 4, 2) := by decide +kernel
theorem kd_M_part_130 : decode kc_M_part 130 = .ok (.iastore, 1) := by decide +kernel
theorem kd_M_part_131 : decode kc_M_part 131 = .ok (.aload_n 0, 1) := by decide +kernel
theorem kd_M_part_132 : decode kc_M_part 132 = .ok (.getfield 76, 3) := by decide +kernel
theorem kd_M_part_135 : decode kc_M_part 135 = .ok (.iload_n 1, 1) := by decide +kernel
theorem kd_M_part_136 : decode kc_M_part 136 = .ok (.dup2, 1) := by decide +kernel
theorem kd_M_part_137 : decode kc_M_part 137 = .ok (.iaload, 1) := by decide +kernel
theorem kd_M_part_138 : decode kc_M_part 138 = .ok (.iconst 1, 1) := by decide +kernel
theorem kd_M_part_139 : decode kc_M_part 139 = .ok (.iadd, 1) := by decide +kernel
theorem kd_M_part_140 : decode kc_M_part 140 = .ok (.iastore, 1) := by decide +kernel
theorem kd_M_part_141 : decode kc_M_part 141 = .ok (.aload_n 0, 1) := by decide +kernel
theorem kd_M_part_142 : decode kc_M_part 142 = .ok (.getfield 76, 3) := by decide +kernel
theorem kd_M_part_145 : decode kc_M_part 145 = .ok (.iload_n 1, 1) := by decide +kernel
theorem kd_M_part_146 : decode kc_M_part 146 = .ok (.iaload, 1) := by decide +kernel
theorem kd_M_part_147 : decode kc_M_part 147 = .ok (.ireturn, 1) := by decide +kernel
theorem kd_M_zone_0 : decode kc_M_zone 0 = .ok (.aload_n 0, 1) := by decide +kernel
theorem kd_M_zone_1 : decode kc_M_zone 1 = .ok (.iload_n 1, 1) := by decide +kernel
theorem kd_M_zone_2 : decode kc_M_zone 2 = .ok (.iconst 0, 1) := by decide +kernel
theorem kd_M_zone_3 : decode kc_M_zone 3 = .ok (.iconst 3, 1) := by decide +kernel
theorem kd_M_zone_4 : decode kc_M_zone 4 = .ok (.invokestatic 204, 3) := by decide +kernel
theorem kd_M_zone_7 : decode kc_M_zone 7 = .ok (.ifCond .eq 18, 3) := by decide +kernel
theorem kd_M_zone_10 : decode kc_M_zone 10 = .ok (.iload_n 2, 1) := by decide +kernel
theorem kd_M_zone_11 : decode kc_M_zone 11 = .ok (.iconst 0, 1) := by decide +kernel
theorem kd_M_zone_12 : decode kc_M_zone 12 = .ok (.sipush 255, 3) := by decide +kernel
theorem kd_M_zone_15 : decode kc_M_zone 15 = .ok (.invokestatic 204, 3) := by decide +kernel
theorem kd_M_zone_18 : decode kc_M_zone 18 = .ok (.ifCond .eq 7, 3) := by decide +kernel
theorem kd_M_zone_21 : decode kc_M_zone 21 = .ok (.iconst 0, 1) := by decide +kernel
theorem kd_M_zone_22 : decode kc_M_zone 22 = .ok (.goto 4, 3) := by decide +kernel
theorem kd_M_zone_25 : decode kc_M_zone 25 = .ok (.iconst 1, 1) := by decide +kernel
theorem kd_M_zone_26 : decode kc_M_zone 26 = .ok (.putfield 190, 3) := by decide +kernel
theorem kd_M_zone_29 : decode kc_M_zone 29 = .ok (.aload_n 0, 1) := by decide +kernel
theorem kd_M_zone_30 : decode kc_M_zone 30 = .ok (.getfield 190, 3) := by decide +kernel
theorem kd_M_zone_33 : decode kc_M_zone 33 = .ok (.ifCond .ne 10, 3) := by decide +kernel
theorem kd_M_zone_36 : decode kc_M_zone 36 = .ok (.aload_n 0, 1) := by decide +kernel
theorem kd_M_zone_37 : decode kc_M_zone 37 = .ok (.getfield 88, 3) := by decide +kernel
theorem kd_M_zone_40 : decode kc_M_zone 40 = .ok (.iload_n 1, 1) := by decide +kernel
theorem kd_M_zone_41 : decode kc_M_zone 41 = .ok (.iload_n 2, 1) := by decide +kernel
theorem kd_M_zone_42 : decode kc_M_zone 42 = .ok (.iastore, 1) := by decide +kernel
theorem kd_M_zone_43 : decode kc_M_zone 43 = .ok (.return_, 1) := by decide +kernel
theorem kd_M_rule_0 : decode kc_M_rule 0 = .ok (.aload_n 0, 1) := by decide +kernel
theorem kd_M_rule_1 : decode kc_M_rule 1 = .ok (.aload_n 0, 1) := by decide +kernel
theorem kd_M_rule_2 : decode kc_M_rule 2 = .ok (.iload_n 1, 1) := by decide +kernel
theorem kd_M_rule_3 : decode kc_M_rule 3 = .ok (.invokevirtual 196, 3) := by decide +kernel
theorem kd_M_rule_6 : decode kc_M_rule 6 = .ok (.ifCond .eq 27, 3) := by decide +kernel
theorem kd_M_rule_9 : decode kc_M_rule 9 = .ok (.iload_n 2, 1) := by decide +kernel
theorem kd_M_rule_10 : decode kc_M_rule 10 = .ok (.iconst 0, 1) := by decide +kernel
theorem kd_M_rule_11 : decode kc_M_rule 11 = .ok (.iconst 1, 1) := by decide +kernel
theorem kd_M_rule_12 : decode kc_M_rule 12 = .ok (.invokestatic 204, 3) := by decide +kernel
theorem kd_M_rule_15 : decode kc_M_rule 15 = .ok (.ifCond .eq 18, 3) := by decide +kernel
theorem kd_M_rule_18 : decode kc_M_rule 18 = .ok (.iload_n 3, 1) := by decide +kernel
theorem kd_M_rule_19 : decode kc_M_rule 19 = .ok (.iconst 0, 1) := by decide +kernel
theorem kd_M_rule_20 : decode kc_M_rule 20 = .ok (.sipush 1000, 3) := by decide +kernel
theorem kd_M_rule_23 : decode kc_M_rule 23 = .ok (.invokestatic 204, 3) := by decide +kernel
theorem kd_M_rule_26 : decode kc_M_rule 26 = .ok (.ifCond .eq 7, 3) := by decide +kernel
theorem kd_M_rule_29 : decode kc_M_rule 29 = .ok (.iconst 0, 1) := by decide +kernel
theorem kd_M_rule_30 : decode kc_M_rule 30 = .ok (.goto 4, 3) := by decide +kernel
theorem kd_M_rule_33 : decode kc_M_rule 33 = .ok (.iconst 1, 1) := by decide +kernel
theorem kd_M_rule_34 : decode kc_M_rule 34 = .ok (.putfield 190, 3) := by decide +kernel
theorem kd_M_rule_37 : decode kc_M_rule 37 = .ok (.aload_n 0, 1) := by decide +kernel
theorem kd_M_rule_38 : decode kc_M_rule 38 = .ok (.getfield 190, 3) := by decide +kernel
theorem kd_M_rule_41 : decode kc_M_rule 41 = .ok (.ifCond .ne 17, 3) := by decide +kernel
theorem kd_M_rule_44 : decode kc_M_rule 44 = .ok (.aload_n 0, 1) := by decide +kernel
theorem kd_M_rule_45 : decode kc_M_rule 45 = .ok (.getfield 13, 3) := by decide +kernel
theorem kd_M_rule_48 : decode kc_M_rule 48 = .ok (.iload_n 1, 1) := by decide +kernel
theorem kd_M_rule_49 : decode kc_M_rule 49 = .ok (.iload_n 2, 1) := by decide +kernel
theorem kd_M_rule_50 : decode kc_M_rule 50 = .ok (.iastore, 1) := by decide +kernel
theorem kd_M_rule_51 : decode kc_M_rule 51 = .ok (.aload_n 0, 1) := by decide +kernel
theorem kd_M_rule_52 : decode kc_M_rule 52 = .ok (.getfield 16, 3) := by decide +kernel
theorem kd_M_rule_55 : decode kc_M_rule 55 = .ok (.iload_n 1, 1) := by decide +kernel
theorem kd_M_rule_56 : decode kc_M_rule 56 = .ok (.iload_n 3, 1) := by decide +kernel
theorem kd_M_rule_57 : decode kc_M_rule 57 = .ok (.iastore, 1) := by decide +kernel
theorem kd_M_rule_58 : decode kc_M_rule 58 = .ok (.return_, 1) := by decide +kernel
theorem kd_M_isMade_0 : decode kc_M_isMade 0 = .ok (.aload_n 0, 1) := by decide +kernel
theorem kd_M_isMade_1 : decode kc_M_isMade 1 = .ok (.getfield 91, 3) := by decide +kernel
theorem kd_M_isMade_4 : decode kc_M_isMade 4 = .ok (.iload_n 1, 1) := by decide +kernel
theorem kd_M_isMade_5 : decode kc_M_isMade 5 = .ok (.iaload, 1) := by decide +kernel
theorem kd_M_isMade_6 : decode kc_M_isMade 6 = .ok (.istore_n 3, 1) := by decide +kernel
theorem kd_M_isMade_7 : decode kc_M_isMade 7 = .ok (.iload_n 3, 1) := by decide +kernel
theorem kd_M_isMade_8 : decode kc_M_isMade 8 = .ok (.ifCond .lt 22, 3) := by decide +kernel
theorem kd_M_isMade_11 : decode kc_M_isMade 11 = .ok (.aload_n 0, 1) := by decide +kernel
theorem kd_M_isMade_12 : decode kc_M_isMade 12 = .ok (.getfield 13, 3) := by decide +kernel
theorem kd_M_isMade_15 : decode kc_M_isMade 15 = .ok (.iload_n 3, 1) := by decide +kernel
theorem kd_M_isMade_16 : decode kc_M_isMade 16 = .ok (.iaload, 1) := by decide +kernel
theorem kd_M_isMade_17 : decode kc_M_isMade 17 = .ok (.ifCond .ge 13, 3) := by decide +kernel
theorem kd_M_isMade_20 : decode kc_M_isMade 20 = .ok (.aload_n 0, 1) := by decide +kernel
theorem kd_M_isMade_21 : decode kc_M_isMade 21 = .ok (.getfield 7, 3) := by decide +kernel
theorem kd_M_isMade_24 : decode kc_M_isMade 24 = .ok (.iload_n 3, 1) := by decide +kernel
theorem kd_M_isMade_25 : decode kc_M_isMade 25 = .ok (.iaload, 1) := by decide +kernel
theorem kd_M_isMade_26 : decode kc_M_isMade 26 = .ok (.istore_n 3, 1) := by decide +kernel
theorem kd_M_isMade_27 : decode kc_M_isMade 27 = .ok (.goto (-20), 3) := by decide +kernel
theorem kd_M_isMade_30 : decode kc_M_isMade 30 = .ok (.iload_n 3, 1) := by decide +kernel
theorem kd_M_isMade_31 : decode kc_M_isMade 31 = .ok (.ifCond .lt 12, 3) := by decide +kernel
theorem kd_M_isMade_34 : decode kc_M_isMade 34 = .ok (.aload_n 0, 1) := by decide +kernel
theorem kd_M_isMade_35 : decode kc_M_isMade 35 = .ok (.getfield 76, 3) := by decide +kernel
theorem kd_M_isMade_38 : decode kc_M_isMade 38 = .ok (.iload_n 1, 1) := by decide +kernel
theorem kd_M_isMade_39 : decode kc_M_isMade 39 = .ok (.iaload, 1) := by decide +kernel
theorem kd_M_isMade_40 : decode kc_M_isMade 40 = .ok (.ifCond .ne 5, 3) := by decide +kernel
theorem kd_M_isMade_43 : decode kc_M_isMade 43 = .ok (.iconst 0, 1) := by decide +kernel
theorem kd_M_isMade_44 : decode kc_M_isMade 44 = .ok (.ireturn, 1) := by decide +kernel
theorem kd_M_isMade_45 : decode kc_M_isMade 45 = .ok (.lconst 0, 1) := by decide +kernel
theorem kd_M_isMade_46 : decode kc_M_isMade 46 = .ok (.lstore 4, 2) := by decide +kernel
theorem kd_M_isMade_48 : decode kc_M_isMade 48 = .ok (.lconst 0, 1) := by decide +kernel
theorem kd_M_isMade_49 : decode kc_M_isMade 49 = .ok (.lstore 6, 2) := by decide +kernel
theorem kd_M_isMade_51 : decode kc_M_isMade 51 = .ok (.iconst 1, 1) := by decide +kernel
theorem kd_M_isMade_52 : decode kc_M_isMade 52 = .ok (.istore 8, 2) := by decide +kernel
theorem kd_M_isMade_54 : decode kc_M_isMade 54 = .ok (.iconst 5, 1) := by decide +kernel
theorem kd_M_isMade_55 : decode kc_M_isMade 55 = .ok (.iload_n 1, 1) := by decide +kernel
theorem kd_M_isMade_56 : decode kc_M_isMade 56 = .ok (.imul, 1) := by decide +kernel
theorem kd_M_isMade_57 : decode kc_M_isMade 57 = .ok (.istore 9, 2) := by decide +kernel
theorem kd_M_isMade_59 : decode kc_M_isMade 59 = .ok (.iload 9, 2) := by decide +kernel
theorem kd_M_isMade_61 : decode kc_M_isMade 61 = .ok (.iconst 5, 1) := by decide +kernel
theorem kd_M_isMade_62 : decode kc_M_isMade 62 = .ok (.iload_n 1, 1) := by decide +kernel
theorem kd_M_isMade_63 : decode kc_M_isMade 63 = .ok (.imul, 1) := by decide +kernel
theorem kd_M_isMade_64 : decode kc_M_isMade 64 = .ok (.aload_n 0, 1) := by decide +kernel
theorem kd_M_isMade_65 : decode kc_M_isMade 65 = .ok (.getfield 76, 3) := by decide +kernel
theorem kd_M_isMade_68 : decode kc_M_isMade 68 = .ok (.iload_n 1, 1) := by decide +kernel
theorem kd_M_isMade_69 : decode kc_M_isMade 69 = .ok (.iaload, 1) := by decide +kernel
theorem kd_M_isMade_70 : decode kc_M_isMade 70 = .ok (.iadd, 1) := by decide +kernel
theorem kd_M_isMade_71 : decode kc_M_isMade 71 = .ok (.if_icmp .ge 128, 3) := by decide +kernel
theorem kd_M_isMade_74 : decode kc_M_isMade 74 = .ok (.aload_n 0, 1) := by decide +kernel
theorem kd_M_isMade_75 : decode kc_M_isMade 75 = .ok (.getfield 79, 3) := by decide +kernel
theorem kd_M_isMade_78 : decode kc_M_isMade 78 = .ok (.iload 9, 2) := by decide +kernel
theorem kd_M_isMade_80 : decode kc_M_isMade 80 = .ok (.iaload, 1) := by decide +kernel
theorem kd_M_isMade_81 : decode kc_M_isMade 81 = .ok (.istore 10, 2) := by decide +kernel
theorem kd_M_isMade_83 : decode kc_M_isMade 83 = .ok (.iload_n 2, 1) := by decide +kernel
theorem kd_M_isMade_84 : decode kc_M_isMade 84 = .ok (.aload_n 0, 1) := by decide +kernel
theorem kd_M_isMade_85 : decode kc_M_isMade 85 = .ok (.getfield 85, 3) := by decide +kernel
theorem kd_M_isMade_88 : decode kc_M_isMade 88 = .ok (.iload 9, 2) := by decide +kernel
theorem kd_M_isMade_90 : decode kc_M_isMade 90 = .ok (.iaload, 1) := by decide +kernel
theorem kd_M_isMade_91 : decode kc_M_isMade 91 = .ok (.ishr, 1) := by decide +kernel
theorem kd_M_isMade_92 : decode kc_M_isMade 92 = .ok (.iconst 1, 1) := by decide +kernel
theorem kd_M_isMade_93 : decode kc_M_isMade 93 = .ok (.iand, 1) := by decide +kernel
theorem kd_M_isMade_94 : decode kc_M_isMade 94 = .ok (.ifCond .eq 23, 3) := by decide +kernel
theorem kd_M_isMade_97 : decode kc_M_isMade 97 = .ok (.aload_n 0, 1) := by decide +kernel
theorem kd_M_isMade_98 : decode kc_M_isMade 98 = .ok (.getfield 76, 3) := by decide +kernel
theorem kd_M_isMade_101 : decode kc_M_isMade 101 = .ok (.iload 10, 2) := by decide +kernel
theorem kd_M_isMade_103 : decode kc_M_isMade 103 = .ok (.iaload, 1) := by decide +kernel
theorem kd_M_isMade_104 : decode kc_M_isMade 104 = .ok (.ifCond .le 17, 3) := by decide +kernel
theorem kd_M_isMade_107 : decode kc_M_isMade 107 = .ok (.aload_n 0, 1) := by decide +kernel
theorem kd_M_isMade_108 : decode kc_M_isMade 108 = .ok (.getfield 98, 3) := by decide +kernel
theorem kd_M_isMade_111 : decode kc_M_isMade 111 = .ok (.iload 10, 2) := by decide +kernel
theorem kd_M_isMade_113 : decode kc_M_isMade 113 = .ok (.baload, 1) := by decide +kernel
theorem kd_M_isMade_114 : decode kc_M_isMade 114 = .ok (.ifCond .ne 7, 3) := by decide +kernel
theorem kd_M_isMade_117 : decode kc_M_isMade 117 = .ok (.iconst 1, 1) := by decide +kernel
theorem kd_M_isMade_118 : decode kc_M_isMade 118 = .ok (.goto 4, 3) := by decide +kernel
theorem kd_M_isMade_121 : decode kc_M_isMade 121 = .ok (.iconst 0, 1) := by decide +kernel
theorem kd_M_isMade_122 : decode kc_M_isMade 122 = .ok (.istore 11, 2) := by decide +kernel
theorem kd_M_isMade_124 : decode kc_M_isMade 124 = .ok (.lload 6, 2) := by decide +kernel
theorem kd_M_isMade_126 : decode kc_M_isMade 126 = .ok (.aload_n 0, 1) := by decide +kernel
theorem kd_M_isMade_127 : decode kc_M_isMade 127 = .ok (.getfield 82, 3) := by decide +kernel
theorem kd_M_isMade_130 : decode kc_M_isMade 130 = .ok (.iload 9, 2) := by decide +kernel
theorem kd_M_isMade_132 : decode kc_M_isMade 132 = .ok (.iaload, 1) := by decide +kernel
theorem kd_M_isMade_133 : decode kc_M_isMade 133 = .ok (.i2l, 1) := by decide +kernel
theorem kd_M_isMade_134 : decode kc_M_isMade 134 = .ok (.ladd, 1) := by decide +kernel
theorem kd_M_isMade_135 : decode kc_M_isMade 135 = .ok (.lstore 6, 2) := by decide +kernel
theorem kd_M_isMade_137 : decode kc_M_isMade 137 = .ok (.iload 11, 2) := by decide +kernel
theorem kd_M_isMade_139 : decode kc_M_isMade 139 = .ok (.ifCond .eq 17, 3) := by decide +kernel
theorem kd_M_isMade_142 : decode kc_M_isMade 142 = .ok (.lload 4, 2) := by decide +kernel
theorem kd_M_isMade_144 : decode kc_M_isMade 144 = .ok (.aload_n 0, 1) := by decide +kernel
theorem kd_M_isMade_145 : decode kc_M_isMade 145 = .ok (.getfield 82, 3) := by decide +kernel
theorem kd_M_isMade_148 : decode kc_M_isMade 148 = .ok (.iload 9, 2) := by decide +kernel
theorem kd_M_isMade_150 : decode kc_M_isMade 150 = .ok (.iaload, 1) := by decide +kernel
theorem kd_M_isMade_151 : decode kc_M_isMade 151 = .ok (.i2l, 1) := by decide +kernel
theorem kd_M_isMade_152 : decode kc_M_isMade 152 = .ok (.ladd, 1) := by decide +kernel
theorem kd_M_isMade_153 : decode kc_M_isMade 153 = .ok (.goto 5, 3) := by decide +kernel
theorem kd_M_isMade_156 : decode kc_M_isMade 156 = .ok (.lload 4, 2) := by decide +kernel
theorem kd_M_isMade_158 : decode kc_M_isMade 158 = .ok (.lstore 4, 2) := by decide +kernel
theorem kd_M_isMade_160 : decode kc_M_isMade 160 = .ok (.iload 8, 2) := by decide +kernel
theorem kd_M_isMade_162 : decode kc_M_isMade 162 = .ok (.ifCond .eq 28, 3) := by decide +kernel
theorem kd_M_isMade_165 : decode kc_M_isMade 165 = .ok (.iload 11, 2) := by decide +kernel
theorem kd_M_isMade_167 : decode kc_M_isMade 167 = .ok (.ifCond .eq 19, 3) := by decide +kernel
theorem kd_M_isMade_170 : decode kc_M_isMade 170 = .ok (.aload_n 0, 1) := by decide +kernel
theorem kd_M_isMade_171 : decode kc_M_isMade 171 = .ok (.getfield 91, 3) := by decide +kernel
theorem kd_M_isMade_174 : decode kc_M_isMade 174 = .ok (.iload 10, 2) := by decide +kernel
theorem kd_M_isMade_176 : decode kc_M_isMade 176 = .ok (.iaload, 1) := by decide +kernel
theorem kd_M_isMade_177 : decode kc_M_isMade 177 = .ok (.aload_n 0, 1) := by decide +kernel
