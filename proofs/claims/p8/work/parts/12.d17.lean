theorem kd_B_quota_30 : decode kc_B_quota 30 = .ok (.ifCond .eq 19, 3) := by decide +kernel
theorem kd_B_quota_33 : decode kc_B_quota 33 = .ok (.iload 4, 2) := by decide +kernel
theorem kd_B_quota_35 : decode kc_B_quota 35 = .ok (.iconst 0, 1) := by decide +kernel
theorem kd_B_quota_36 : decode kc_B_quota 36 = .ok (.sipush 10000, 3) := by decide +kernel
theorem kd_B_quota_39 : decode kc_B_quota 39 = .ok (.invokestatic 94, 3) := by decide +kernel
theorem kd_B_quota_42 : decode kc_B_quota 42 = .ok (.ifCond .eq 7, 3) := by decide +kernel
theorem kd_B_quota_45 : decode kc_B_quota 45 = .ok (.iconst 1, 1) := by decide +kernel
theorem kd_B_quota_46 : decode kc_B_quota 46 = .ok (.goto 4, 3) := by decide +kernel
theorem kd_B_quota_49 : decode kc_B_quota 49 = .ok (.iconst 0, 1) := by decide +kernel
theorem kd_B_quota_50 : decode kc_B_quota 50 = .ok (.invokestatic 73, 3) := by decide +kernel
theorem kd_B_quota_53 : decode kc_B_quota 53 = .ok (.iload 5, 2) := by decide +kernel
theorem kd_B_quota_55 : decode kc_B_quota 55 = .ok (.invokestatic 118, 3) := by decide +kernel
theorem kd_B_quota_58 : decode kc_B_quota 58 = .ok (.ifCond .eq 22, 3) := by decide +kernel
theorem kd_B_quota_61 : decode kc_B_quota 61 = .ok (.iload 6, 2) := by decide +kernel
theorem kd_B_quota_63 : decode kc_B_quota 63 = .ok (.invokestatic 118, 3) := by decide +kernel
theorem kd_B_quota_66 : decode kc_B_quota 66 = .ok (.ifCond .eq 14, 3) := by decide +kernel
theorem kd_B_quota_69 : decode kc_B_quota 69 = .ok (.iload 5, 2) := by decide +kernel
theorem kd_B_quota_71 : decode kc_B_quota 71 = .ok (.iload 6, 2) := by decide +kernel
theorem kd_B_quota_73 : decode kc_B_quota 73 = .ok (.if_icmp .gt 7, 3) := by decide +kernel
theorem kd_B_quota_76 : decode kc_B_quota 76 = .ok (.iconst 1, 1) := by decide +kernel
theorem kd_B_quota_77 : decode kc_B_quota 77 = .ok (.goto 4, 3) := by decide +kernel
theorem kd_B_quota_80 : decode kc_B_quota 80 = .ok (.iconst 0, 1) := by decide +kernel
theorem kd_B_quota_81 : decode kc_B_quota 81 = .ok (.invokestatic 73, 3) := by decide +kernel
theorem kd_B_quota_84 : decode kc_B_quota 84 = .ok (.aload_n 0, 1) := by decide +kernel
theorem kd_B_quota_85 : decode kc_B_quota 85 = .ok (.getfield 28, 3) := by decide +kernel
theorem kd_B_quota_88 : decode kc_B_quota 88 = .ok (.getfield 133, 3) := by decide +kernel
theorem kd_B_quota_91 : decode kc_B_quota 91 = .ok (.bipush 8, 2) := by decide +kernel
theorem kd_B_quota_93 : decode kc_B_quota 93 = .ok (.if_icmp .ge 7, 3) := by decide +kernel
theorem kd_B_quota_96 : decode kc_B_quota 96 = .ok (.iconst 1, 1) := by decide +kernel
theorem kd_B_quota_97 : decode kc_B_quota 97 = .ok (.goto 4, 3) := by decide +kernel
theorem kd_B_quota_100 : decode kc_B_quota 100 = .ok (.iconst 0, 1) := by decide +kernel
theorem kd_B_quota_101 : decode kc_B_quota 101 = .ok (.invokestatic 81, 3) := by decide +kernel
theorem kd_B_quota_104 : decode kc_B_quota 104 = .ok (.aload_n 0, 1) := by decide +kernel
theorem kd_B_quota_105 : decode kc_B_quota 105 = .ok (.getfield 28, 3) := by decide +kernel
theorem kd_B_quota_108 : decode kc_B_quota 108 = .ok (.iload_n 1, 1) := by decide +kernel
theorem kd_B_quota_109 : decode kc_B_quota 109 = .ok (.iload_n 2, 1) := by decide +kernel
theorem kd_B_quota_110 : decode kc_B_quota 110 = .ok (.iload_n 3, 1) := by decide +kernel
theorem kd_B_quota_111 : decode kc_B_quota 111 = .ok (.iload 4, 2) := by decide +kernel
theorem kd_B_quota_113 : decode kc_B_quota 113 = .ok (.iload 5, 2) := by decide +kernel
theorem kd_B_quota_115 : decode kc_B_quota 115 = .ok (.iload 6, 2) := by decide +kernel
theorem kd_B_quota_117 : decode kc_B_quota 117 = .ok (.invokevirtual 134, 3) := by decide +kernel
theorem kd_B_quota_120 : decode kc_B_quota 120 = .ok (.ireturn, 1) := by decide +kernel
theorem kd_B_quotaLeft_0 : decode kc_B_quotaLeft 0 = .ok (.iload_n 1, 1) := by decide +kernel
theorem kd_B_quotaLeft_1 : decode kc_B_quotaLeft 1 = .ok (.aload_n 0, 1) := by decide +kernel
theorem kd_B_quotaLeft_2 : decode kc_B_quotaLeft 2 = .ok (.getfield 28, 3) := by decide +kernel
theorem kd_B_quotaLeft_5 : decode kc_B_quotaLeft 5 = .ok (.getfield 133, 3) := by decide +kernel
theorem kd_B_quotaLeft_8 : decode kc_B_quotaLeft 8 = .ok (.invokestatic 137, 3) := by decide +kernel
theorem kd_B_quotaLeft_11 : decode kc_B_quotaLeft 11 = .ok (.invokestatic 73, 3) := by decide +kernel
theorem kd_B_quotaLeft_14 : decode kc_B_quotaLeft 14 = .ok (.aload_n 0, 1) := by decide +kernel
theorem kd_B_quotaLeft_15 : decode kc_B_quotaLeft 15 = .ok (.getfield 28, 3) := by decide +kernel
theorem kd_B_quotaLeft_18 : decode kc_B_quotaLeft 18 = .ok (.getfield 141, 3) := by decide +kernel
theorem kd_B_quotaLeft_21 : decode kc_B_quotaLeft 21 = .ok (.iload_n 1, 1) := by decide +kernel
theorem kd_B_quotaLeft_22 : decode kc_B_quotaLeft 22 = .ok (.iaload, 1) := by decide +kernel
theorem kd_B_quotaLeft_23 : decode kc_B_quotaLeft 23 = .ok (.ireturn, 1) := by decide +kernel
theorem kd_B_part_0 : decode kc_B_part 0 = .ok (.iload_n 1, 1) := by decide +kernel
theorem kd_B_part_1 : decode kc_B_part 1 = .ok (.invokestatic 105, 3) := by decide +kernel
theorem kd_B_part_4 : decode kc_B_part 4 = .ok (.ifCond .eq 22, 3) := by decide +kernel
theorem kd_B_part_7 : decode kc_B_part 7 = .ok (.iload_n 2, 1) := by decide +kernel
theorem kd_B_part_8 : decode kc_B_part 8 = .ok (.invokestatic 105, 3) := by decide +kernel
theorem kd_B_part_11 : decode kc_B_part 11 = .ok (.ifCond .eq 15, 3) := by decide +kernel
theorem kd_B_part_14 : decode kc_B_part 14 = .ok (.iload 4, 2) := by decide +kernel
theorem kd_B_part_16 : decode kc_B_part 16 = .ok (.invokestatic 115, 3) := by decide +kernel
theorem kd_B_part_19 : decode kc_B_part 19 = .ok (.ifCond .eq 7, 3) := by decide +kernel
theorem kd_B_part_22 : decode kc_B_part 22 = .ok (.iconst 1, 1) := by decide +kernel
theorem kd_B_part_23 : decode kc_B_part 23 = .ok (.goto 4, 3) := by decide +kernel
theorem kd_B_part_26 : decode kc_B_part 26 = .ok (.iconst 0, 1) := by decide +kernel
theorem kd_B_part_27 : decode kc_B_part 27 = .ok (.invokestatic 73, 3) := by decide +kernel
theorem kd_B_part_30 : decode kc_B_part 30 = .ok (.iload_n 3, 1) := by decide +kernel
theorem kd_B_part_31 : decode kc_B_part 31 = .ok (.iconst 0, 1) := by decide +kernel
theorem kd_B_part_32 : decode kc_B_part 32 = .ok (.ldc 145, 2) := by decide +kernel
theorem kd_B_part_34 : decode kc_B_part 34 = .ok (.invokestatic 94, 3) := by decide +kernel
theorem kd_B_part_37 : decode kc_B_part 37 = .ok (.invokestatic 73, 3) := by decide +kernel
theorem kd_B_part_40 : decode kc_B_part 40 = .ok (.aload_n 0, 1) := by decide +kernel
theorem kd_B_part_41 : decode kc_B_part 41 = .ok (.getfield 35, 3) := by decide +kernel
theorem kd_B_part_44 : decode kc_B_part 44 = .ok (.iload_n 1, 1) := by decide +kernel
theorem kd_B_part_45 : decode kc_B_part 45 = .ok (.iload_n 2, 1) := by decide +kernel
theorem kd_B_part_46 : decode kc_B_part 46 = .ok (.invokevirtual 146, 3) := by decide +kernel
theorem kd_B_part_49 : decode kc_B_part 49 = .ok (.ifCond .ne 7, 3) := by decide +kernel
theorem kd_B_part_52 : decode kc_B_part 52 = .ok (.iconst 1, 1) := by decide +kernel
theorem kd_B_part_53 : decode kc_B_part 53 = .ok (.goto 4, 3) := by decide +kernel
theorem kd_B_part_56 : decode kc_B_part 56 = .ok (.iconst 0, 1) := by decide +kernel
theorem kd_B_part_57 : decode kc_B_part 57 = .ok (.invokestatic 73, 3) := by decide +kernel
theorem kd_B_part_60 : decode kc_B_part 60 = .ok (.aload_n 0, 1) := by decide +kernel
theorem kd_B_part_61 : decode kc_B_part 61 = .ok (.getfield 35, 3) := by decide +kernel
theorem kd_B_part_64 : decode kc_B_part 64 = .ok (.getfield 149, 3) := by decide +kernel
theorem kd_B_part_67 : decode kc_B_part 67 = .ok (.iload_n 1, 1) := by decide +kernel
theorem kd_B_part_68 : decode kc_B_part 68 = .ok (.iaload, 1) := by decide +kernel
theorem kd_B_part_69 : decode kc_B_part 69 = .ok (.iconst 5, 1) := by decide +kernel
theorem kd_B_part_70 : decode kc_B_part 70 = .ok (.if_icmp .ge 7, 3) := by decide +kernel
theorem kd_B_part_73 : decode kc_B_part 73 = .ok (.iconst 1, 1) := by decide +kernel
theorem kd_B_part_74 : decode kc_B_part 74 = .ok (.goto 4, 3) := by decide +kernel
theorem kd_B_part_77 : decode kc_B_part 77 = .ok (.iconst 0, 1) := by decide +kernel
theorem kd_B_part_78 : decode kc_B_part 78 = .ok (.invokestatic 81, 3) := by decide +kernel
theorem kd_B_part_81 : decode kc_B_part 81 = .ok (.aload_n 0, 1) := by decide +kernel
theorem kd_B_part_82 : decode kc_B_part 82 = .ok (.getfield 35, 3) := by decide +kernel
theorem kd_B_part_85 : decode kc_B_part 85 = .ok (.iload_n 1, 1) := by decide +kernel
theorem kd_B_part_86 : decode kc_B_part 86 = .ok (.iload_n 2, 1) := by decide +kernel
theorem kd_B_part_87 : decode kc_B_part 87 = .ok (.iload_n 3, 1) := by decide +kernel
theorem kd_B_part_88 : decode kc_B_part 88 = .ok (.iload 4, 2) := by decide +kernel
theorem kd_B_part_90 : decode kc_B_part 90 = .ok (.invokevirtual 152, 3) := by decide +kernel
theorem kd_B_part_93 : decode kc_B_part 93 = .ok (.ireturn, 1) := by decide +kernel
theorem kd_B_zone_0 : decode kc_B_zone 0 = .ok (.iload_n 1, 1) := by decide +kernel
theorem kd_B_zone_1 : decode kc_B_zone 1 = .ok (.iconst 4, 1) := by decide +kernel
theorem kd_B_zone_2 : decode kc_B_zone 2 = .ok (.invokestatic 137, 3) := by decide +kernel
theorem kd_B_zone_5 : decode kc_B_zone 5 = .ok (.invokestatic 73, 3) := by decide +kernel
theorem kd_B_zone_8 : decode kc_B_zone 8 = .ok (.iload_n 2, 1) := by decide +kernel
theorem kd_B_zone_9 : decode kc_B_zone 9 = .ok (.sipush 256, 3) := by decide +kernel
theorem kd_B_zone_12 : decode kc_B_zone 12 = .ok (.invokestatic 137, 3) := by decide +kernel
theorem kd_B_zone_15 : decode kc_B_zone 15 = .ok (.invokestatic 73, 3) := by decide +kernel
theorem kd_B_zone_18 : decode kc_B_zone 18 = .ok (.aload_n 0, 1) := by decide +kernel
theorem kd_B_zone_19 : decode kc_B_zone 19 = .ok (.getfield 35, 3) := by decide +kernel
theorem kd_B_zone_22 : decode kc_B_zone 22 = .ok (.getfield 155, 3) := by decide +kernel
theorem kd_B_zone_25 : decode kc_B_zone 25 = .ok (.iload_n 1, 1) := by decide +kernel
theorem kd_B_zone_26 : decode kc_B_zone 26 = .ok (.iload_n 2, 1) := by decide +kernel
theorem kd_B_zone_27 : decode kc_B_zone 27 = .ok (.iastore, 1) := by decide +kernel
theorem kd_B_zone_28 : decode kc_B_zone 28 = .ok (.return_, 1) := by decide +kernel
theorem kd_B_rule_0 : decode kc_B_rule 0 = .ok (.aload_n 0, 1) := by decide +kernel
theorem kd_B_rule_1 : decode kc_B_rule 1 = .ok (.iload_n 1, 1) := by decide +kernel
theorem kd_B_rule_2 : decode kc_B_rule 2 = .ok (.invokevirtual 69, 3) := by decide +kernel
theorem kd_B_rule_5 : decode kc_B_rule 5 = .ok (.invokestatic 73, 3) := by decide +kernel
theorem kd_B_rule_8 : decode kc_B_rule 8 = .ok (.iload_n 2, 1) := by decide +kernel
theorem kd_B_rule_9 : decode kc_B_rule 9 = .ok (.ifCond .eq 8, 3) := by decide +kernel
theorem kd_B_rule_12 : decode kc_B_rule 12 = .ok (.iload_n 2, 1) := by decide +kernel
theorem kd_B_rule_13 : decode kc_B_rule 13 = .ok (.iconst 1, 1) := by decide +kernel
theorem kd_B_rule_14 : decode kc_B_rule 14 = .ok (.if_icmp .ne 7, 3) := by decide +kernel
theorem kd_B_rule_17 : decode kc_B_rule 17 = .ok (.iconst 1, 1) := by decide +kernel
theorem kd_B_rule_18 : decode kc_B_rule 18 = .ok (.goto 4, 3) := by decide +kernel
theorem kd_B_rule_21 : decode kc_B_rule 21 = .ok (.iconst 0, 1) := by decide +kernel
theorem kd_B_rule_22 : decode kc_B_rule 22 = .ok (.invokestatic 73, 3) := by decide +kernel
theorem kd_B_rule_25 : decode kc_B_rule 25 = .ok (.iload_n 3, 1) := by decide +kernel
theorem kd_B_rule_26 : decode kc_B_rule 26 = .ok (.iconst 0, 1) := by decide +kernel
theorem kd_B_rule_27 : decode kc_B_rule 27 = .ok (.sipush 1000, 3) := by decide +kernel
theorem kd_B_rule_30 : decode kc_B_rule 30 = .ok (.invokestatic 94, 3) := by decide +kernel
theorem kd_B_rule_33 : decode kc_B_rule 33 = .ok (.invokestatic 73, 3) := by decide +kernel
theorem kd_B_rule_36 : decode kc_B_rule 36 = .ok (.aload_n 0, 1) := by decide +kernel
theorem kd_B_rule_37 : decode kc_B_rule 37 = .ok (.getfield 10, 3) := by decide +kernel
theorem kd_B_rule_40 : decode kc_B_rule 40 = .ok (.getfield 158, 3) := by decide +kernel
theorem kd_B_rule_43 : decode kc_B_rule 43 = .ok (.iload_n 1, 1) := by decide +kernel
theorem kd_B_rule_44 : decode kc_B_rule 44 = .ok (.iload_n 2, 1) := by decide +kernel
theorem kd_B_rule_45 : decode kc_B_rule 45 = .ok (.iastore, 1) := by decide +kernel
theorem kd_B_rule_46 : decode kc_B_rule 46 = .ok (.aload_n 0, 1) := by decide +kernel
theorem kd_B_rule_47 : decode kc_B_rule 47 = .ok (.getfield 10, 3) := by decide +kernel
theorem kd_B_rule_50 : decode kc_B_rule 50 = .ok (.getfield 161, 3) := by decide +kernel
theorem kd_B_rule_53 : decode kc_B_rule 53 = .ok (.iload_n 1, 1) := by decide +kernel
theorem kd_B_rule_54 : decode kc_B_rule 54 = .ok (.iload_n 3, 1) := by decide +kernel
theorem kd_B_rule_55 : decode kc_B_rule 55 = .ok (.iastore, 1) := by decide +kernel
theorem kd_B_rule_56 : decode kc_B_rule 56 = .ok (.return_, 1) := by decide +kernel
theorem kd_B_madeIn_0 : decode kc_B_madeIn 0 = .ok (.iload_n 1, 1) := by decide +kernel
theorem kd_B_madeIn_1 : decode kc_B_madeIn 1 = .ok (.invokestatic 105, 3) := by decide +kernel
theorem kd_B_madeIn_4 : decode kc_B_madeIn 4 = .ok (.ifCond .eq 15, 3) := by decide +kernel
theorem kd_B_madeIn_7 : decode kc_B_madeIn 7 = .ok (.iload_n 2, 1) := by decide +kernel
theorem kd_B_madeIn_8 : decode kc_B_madeIn 8 = .ok (.iconst 4, 1) := by decide +kernel
theorem kd_B_madeIn_9 : decode kc_B_madeIn 9 = .ok (.invokestatic 137, 3) := by decide +kernel
theorem kd_B_madeIn_12 : decode kc_B_madeIn 12 = .ok (.ifCond .eq 7, 3) := by decide +kernel
theorem kd_B_madeIn_15 : decode kc_B_madeIn 15 = .ok (.iconst 1, 1) := by decide +kernel
theorem kd_B_madeIn_16 : decode kc_B_madeIn 16 = .ok (.goto 4, 3) := by decide +kernel
theorem kd_B_madeIn_19 : decode kc_B_madeIn 19 = .ok (.iconst 0, 1) := by decide +kernel
theorem kd_B_madeIn_20 : decode kc_B_madeIn 20 = .ok (.invokestatic 73, 3) := by decide +kernel
theorem kd_B_madeIn_23 : decode kc_B_madeIn 23 = .ok (.aload_n 0, 1) := by decide +kernel
theorem kd_B_madeIn_24 : decode kc_B_madeIn 24 = .ok (.getfield 35, 3) := by decide +kernel
theorem kd_B_madeIn_27 : decode kc_B_madeIn 27 = .ok (.iload_n 1, 1) := by decide +kernel
theorem kd_B_madeIn_28 : decode kc_B_madeIn 28 = .ok (.iload_n 2, 1) := by decide +kernel
theorem kd_B_madeIn_29 : decode kc_B_madeIn 29 = .ok (.invokevirtual 164, 3) := by decide +kernel
theorem kd_B_madeIn_32 : decode kc_B_madeIn 32 = .ok (.ireturn, 1) := by decide +kernel
