theorem kd_M_quota_53 : decode kc_M_quota 53 = .ok (.iload 5, 2) := by decide +kernel
theorem kd_M_quota_55 : decode kc_M_quota 55 = .ok (.ifCond .lt 18, 3) := by decide +kernel
theorem kd_M_quota_58 : decode kc_M_quota 58 = .ok (.iload 5, 2) := by decide +kernel
theorem kd_M_quota_60 : decode kc_M_quota 60 = .ok (.iload 6, 2) := by decide +kernel
theorem kd_M_quota_62 : decode kc_M_quota 62 = .ok (.if_icmp .gt 11, 3) := by decide +kernel
theorem kd_M_quota_65 : decode kc_M_quota 65 = .ok (.iload 6, 2) := by decide +kernel
theorem kd_M_quota_67 : decode kc_M_quota 67 = .ok (.sipush 9999, 3) := by decide +kernel
theorem kd_M_quota_70 : decode kc_M_quota 70 = .ok (.if_icmp .le 7, 3) := by decide +kernel
theorem kd_M_quota_73 : decode kc_M_quota 73 = .ok (.iconst 1, 1) := by decide +kernel
theorem kd_M_quota_74 : decode kc_M_quota 74 = .ok (.goto 17, 3) := by decide +kernel
theorem kd_M_quota_77 : decode kc_M_quota 77 = .ok (.aload_n 0, 1) := by decide +kernel
theorem kd_M_quota_78 : decode kc_M_quota 78 = .ok (.getfield 239, 3) := by decide +kernel
theorem kd_M_quota_81 : decode kc_M_quota 81 = .ok (.bipush 8, 2) := by decide +kernel
theorem kd_M_quota_83 : decode kc_M_quota 83 = .ok (.if_icmp .ne 7, 3) := by decide +kernel
theorem kd_M_quota_86 : decode kc_M_quota 86 = .ok (.iconst 2, 1) := by decide +kernel
theorem kd_M_quota_87 : decode kc_M_quota 87 = .ok (.goto 4, 3) := by decide +kernel
theorem kd_M_quota_90 : decode kc_M_quota 90 = .ok (.iconst 0, 1) := by decide +kernel
theorem kd_M_quota_91 : decode kc_M_quota 91 = .ok (.putfield 190, 3) := by decide +kernel
theorem kd_M_quota_94 : decode kc_M_quota 94 = .ok (.aload_n 0, 1) := by decide +kernel
theorem kd_M_quota_95 : decode kc_M_quota 95 = .ok (.getfield 190, 3) := by decide +kernel
theorem kd_M_quota_98 : decode kc_M_quota 98 = .ok (.ifCond .le 5, 3) := by decide +kernel
theorem kd_M_quota_101 : decode kc_M_quota 101 = .ok (.iconst 0, 1) := by decide +kernel
theorem kd_M_quota_102 : decode kc_M_quota 102 = .ok (.ireturn, 1) := by decide +kernel
theorem kd_M_quota_103 : decode kc_M_quota 103 = .ok (.aload_n 0, 1) := by decide +kernel
theorem kd_M_quota_104 : decode kc_M_quota 104 = .ok (.getfield 52, 3) := by decide +kernel
theorem kd_M_quota_107 : decode kc_M_quota 107 = .ok (.aload_n 0, 1) := by decide +kernel
theorem kd_M_quota_108 : decode kc_M_quota 108 = .ok (.getfield 239, 3) := by decide +kernel
theorem kd_M_quota_111 : decode kc_M_quota 111 = .ok (.iload_n 1, 1) := by decide +kernel
theorem kd_M_quota_112 : decode kc_M_quota 112 = .ok (.iastore, 1) := by decide +kernel
theorem kd_M_quota_113 : decode kc_M_quota 113 = .ok (.aload_n 0, 1) := by decide +kernel
theorem kd_M_quota_114 : decode kc_M_quota 114 = .ok (.getfield 55, 3) := by decide +kernel
theorem kd_M_quota_117 : decode kc_M_quota 117 = .ok (.aload_n 0, 1) := by decide +kernel
theorem kd_M_quota_118 : decode kc_M_quota 118 = .ok (.getfield 239, 3) := by decide +kernel
theorem kd_M_quota_121 : decode kc_M_quota 121 = .ok (.iload_n 2, 1) := by decide +kernel
theorem kd_M_quota_122 : decode kc_M_quota 122 = .ok (.iastore, 1) := by decide +kernel
theorem kd_M_quota_123 : decode kc_M_quota 123 = .ok (.aload_n 0, 1) := by decide +kernel
theorem kd_M_quota_124 : decode kc_M_quota 124 = .ok (.getfield 58, 3) := by decide +kernel
theorem kd_M_quota_127 : decode kc_M_quota 127 = .ok (.aload_n 0, 1) := by decide +kernel
theorem kd_M_quota_128 : decode kc_M_quota 128 = .ok (.getfield 239, 3) := by decide +kernel
theorem kd_M_quota_131 : decode kc_M_quota 131 = .ok (.iload 4, 2) := by decide +kernel
theorem kd_M_quota_133 : decode kc_M_quota 133 = .ok (.iastore, 1) := by decide +kernel
theorem kd_M_quota_134 : decode kc_M_quota 134 = .ok (.aload_n 0, 1) := by decide +kernel
theorem kd_M_quota_135 : decode kc_M_quota 135 = .ok (.getfield 61, 3) := by decide +kernel
theorem kd_M_quota_138 : decode kc_M_quota 138 = .ok (.aload_n 0, 1) := by decide +kernel
theorem kd_M_quota_139 : decode kc_M_quota 139 = .ok (.getfield 239, 3) := by decide +kernel
theorem kd_M_quota_142 : decode kc_M_quota 142 = .ok (.iload 5, 2) := by decide +kernel
theorem kd_M_quota_144 : decode kc_M_quota 144 = .ok (.iastore, 1) := by decide +kernel
theorem kd_M_quota_145 : decode kc_M_quota 145 = .ok (.aload_n 0, 1) := by decide +kernel
theorem kd_M_quota_146 : decode kc_M_quota 146 = .ok (.getfield 64, 3) := by decide +kernel
theorem kd_M_quota_149 : decode kc_M_quota 149 = .ok (.aload_n 0, 1) := by decide +kernel
theorem kd_M_quota_150 : decode kc_M_quota 150 = .ok (.getfield 239, 3) := by decide +kernel
theorem kd_M_quota_153 : decode kc_M_quota 153 = .ok (.iload 6, 2) := by decide +kernel
theorem kd_M_quota_155 : decode kc_M_quota 155 = .ok (.iastore, 1) := by decide +kernel
theorem kd_M_quota_156 : decode kc_M_quota 156 = .ok (.aload_n 0, 1) := by decide +kernel
theorem kd_M_quota_157 : decode kc_M_quota 157 = .ok (.getfield 67, 3) := by decide +kernel
theorem kd_M_quota_160 : decode kc_M_quota 160 = .ok (.aload_n 0, 1) := by decide +kernel
theorem kd_M_quota_161 : decode kc_M_quota 161 = .ok (.getfield 239, 3) := by decide +kernel
theorem kd_M_quota_164 : decode kc_M_quota 164 = .ok (.iload_n 3, 1) := by decide +kernel
theorem kd_M_quota_165 : decode kc_M_quota 165 = .ok (.iastore, 1) := by decide +kernel
theorem kd_M_quota_166 : decode kc_M_quota 166 = .ok (.aload_n 0, 1) := by decide +kernel
theorem kd_M_quota_167 : decode kc_M_quota 167 = .ok (.dup, 1) := by decide +kernel
theorem kd_M_quota_168 : decode kc_M_quota 168 = .ok (.getfield 239, 3) := by decide +kernel
theorem kd_M_quota_171 : decode kc_M_quota 171 = .ok (.iconst 1, 1) := by decide +kernel
theorem kd_M_quota_172 : decode kc_M_quota 172 = .ok (.iadd, 1) := by decide +kernel
theorem kd_M_quota_173 : decode kc_M_quota 173 = .ok (.putfield 239, 3) := by decide +kernel
theorem kd_M_quota_176 : decode kc_M_quota 176 = .ok (.aload_n 0, 1) := by decide +kernel
theorem kd_M_quota_177 : decode kc_M_quota 177 = .ok (.getfield 239, 3) := by decide +kernel
theorem kd_M_quota_180 : decode kc_M_quota 180 = .ok (.iconst 1, 1) := by decide +kernel
theorem kd_M_quota_181 : decode kc_M_quota 181 = .ok (.isub, 1) := by decide +kernel
theorem kd_M_quota_182 : decode kc_M_quota 182 = .ok (.ireturn, 1) := by decide +kernel
theorem kd_M_quotaLeft_0 : decode kc_M_quotaLeft 0 = .ok (.aload_n 0, 1) := by decide +kernel
theorem kd_M_quotaLeft_1 : decode kc_M_quotaLeft 1 = .ok (.iload_n 1, 1) := by decide +kernel
theorem kd_M_quotaLeft_2 : decode kc_M_quotaLeft 2 = .ok (.ifCond .lt 15, 3) := by decide +kernel
theorem kd_M_quotaLeft_5 : decode kc_M_quotaLeft 5 = .ok (.iload_n 1, 1) := by decide +kernel
theorem kd_M_quotaLeft_6 : decode kc_M_quotaLeft 6 = .ok (.aload_n 0, 1) := by decide +kernel
theorem kd_M_quotaLeft_7 : decode kc_M_quotaLeft 7 = .ok (.getfield 239, 3) := by decide +kernel
theorem kd_M_quotaLeft_10 : decode kc_M_quotaLeft 10 = .ok (.if_icmp .ge 7, 3) := by decide +kernel
theorem kd_M_quotaLeft_13 : decode kc_M_quotaLeft 13 = .ok (.iconst 0, 1) := by decide +kernel
theorem kd_M_quotaLeft_14 : decode kc_M_quotaLeft 14 = .ok (.goto 4, 3) := by decide +kernel
theorem kd_M_quotaLeft_17 : decode kc_M_quotaLeft 17 = .ok (.iconst 1, 1) := by decide +kernel
theorem kd_M_quotaLeft_18 : decode kc_M_quotaLeft 18 = .ok (.putfield 190, 3) := by decide +kernel
theorem kd_M_quotaLeft_21 : decode kc_M_quotaLeft 21 = .ok (.aload_n 0, 1) := by decide +kernel
theorem kd_M_quotaLeft_22 : decode kc_M_quotaLeft 22 = .ok (.getfield 190, 3) := by decide +kernel
theorem kd_M_quotaLeft_25 : decode kc_M_quotaLeft 25 = .ok (.ifCond .le 7, 3) := by decide +kernel
theorem kd_M_quotaLeft_28 : decode kc_M_quotaLeft 28 = .ok (.iconst 0, 1) := by decide +kernel
theorem kd_M_quotaLeft_29 : decode kc_M_quotaLeft 29 = .ok (.goto 9, 3) := by decide +kernel
theorem kd_M_quotaLeft_32 : decode kc_M_quotaLeft 32 = .ok (.aload_n 0, 1) := by decide +kernel
theorem kd_M_quotaLeft_33 : decode kc_M_quotaLeft 33 = .ok (.getfield 67, 3) := by decide +kernel
theorem kd_M_quotaLeft_36 : decode kc_M_quotaLeft 36 = .ok (.iload_n 1, 1) := by decide +kernel
theorem kd_M_quotaLeft_37 : decode kc_M_quotaLeft 37 = .ok (.iaload, 1) := by decide +kernel
theorem kd_M_quotaLeft_38 : decode kc_M_quotaLeft 38 = .ok (.ireturn, 1) := by decide +kernel
theorem kd_M_reaches_0 : decode kc_M_reaches 0 = .ok (.iconst 0, 1) := by decide +kernel
theorem kd_M_reaches_1 : decode kc_M_reaches 1 = .ok (.istore_n 3, 1) := by decide +kernel
theorem kd_M_reaches_2 : decode kc_M_reaches 2 = .ok (.iload_n 3, 1) := by decide +kernel
theorem kd_M_reaches_3 : decode kc_M_reaches 3 = .ok (.bipush 16, 2) := by decide +kernel
theorem kd_M_reaches_5 : decode kc_M_reaches 5 = .ok (.if_icmp .ge 25, 3) := by decide +kernel
theorem kd_M_reaches_8 : decode kc_M_reaches 8 = .ok (.aload_n 0, 1) := by decide +kernel
theorem kd_M_reaches_9 : decode kc_M_reaches 9 = .ok (.getfield 94, 3) := by decide +kernel
theorem kd_M_reaches_12 : decode kc_M_reaches 12 = .ok (.iload_n 3, 1) := by decide +kernel
theorem kd_M_reaches_13 : decode kc_M_reaches 13 = .ok (.iload_n 3, 1) := by decide +kernel
theorem kd_M_reaches_14 : decode kc_M_reaches 14 = .ok (.iload_n 1, 1) := by decide +kernel
theorem kd_M_reaches_15 : decode kc_M_reaches 15 = .ok (.if_icmp .ne 7, 3) := by decide +kernel
theorem kd_M_reaches_18 : decode kc_M_reaches 18 = .ok (.iconst 1, 1) := by decide +kernel
theorem kd_M_reaches_19 : decode kc_M_reaches 19 = .ok (.goto 4, 3) := by decide +kernel
theorem kd_M_reaches_22 : decode kc_M_reaches 22 = .ok (.iconst 0, 1) := by decide +kernel
theorem kd_M_reaches_23 : decode kc_M_reaches 23 = .ok (.bastore, 1) := by decide +kernel
theorem kd_M_reaches_24 : decode kc_M_reaches 24 = .ok (.iinc 3 1, 3) := by decide +kernel
theorem kd_M_reaches_27 : decode kc_M_reaches 27 = .ok (.goto (-25), 3) := by decide +kernel
theorem kd_M_reaches_30 : decode kc_M_reaches 30 = .ok (.iconst 0, 1) := by decide +kernel
theorem kd_M_reaches_31 : decode kc_M_reaches 31 = .ok (.istore_n 3, 1) := by decide +kernel
theorem kd_M_reaches_32 : decode kc_M_reaches 32 = .ok (.iload_n 3, 1) := by decide +kernel
theorem kd_M_reaches_33 : decode kc_M_reaches 33 = .ok (.bipush 16, 2) := by decide +kernel
theorem kd_M_reaches_35 : decode kc_M_reaches 35 = .ok (.if_icmp .ge 74, 3) := by decide +kernel
theorem kd_M_reaches_38 : decode kc_M_reaches 38 = .ok (.iconst 0, 1) := by decide +kernel
theorem kd_M_reaches_39 : decode kc_M_reaches 39 = .ok (.istore 4, 2) := by decide +kernel
theorem kd_M_reaches_41 : decode kc_M_reaches 41 = .ok (.iload 4, 2) := by decide +kernel
theorem kd_M_reaches_43 : decode kc_M_reaches 43 = .ok (.bipush 16, 2) := by decide +kernel
theorem kd_M_reaches_45 : decode kc_M_reaches 45 = .ok (.if_icmp .ge 58, 3) := by decide +kernel
theorem kd_M_reaches_48 : decode kc_M_reaches 48 = .ok (.iconst 0, 1) := by decide +kernel
theorem kd_M_reaches_49 : decode kc_M_reaches 49 = .ok (.istore 5, 2) := by decide +kernel
theorem kd_M_reaches_51 : decode kc_M_reaches 51 = .ok (.iload 5, 2) := by decide +kernel
theorem kd_M_reaches_53 : decode kc_M_reaches 53 = .ok (.aload_n 0, 1) := by decide +kernel
theorem kd_M_reaches_54 : decode kc_M_reaches 54 = .ok (.getfield 76, 3) := by decide +kernel
theorem kd_M_reaches_57 : decode kc_M_reaches 57 = .ok (.iload 4, 2) := by decide +kernel
theorem kd_M_reaches_59 : decode kc_M_reaches 59 = .ok (.iaload, 1) := by decide +kernel
theorem kd_M_reaches_60 : decode kc_M_reaches 60 = .ok (.if_icmp .ge 37, 3) := by decide +kernel
theorem kd_M_reaches_63 : decode kc_M_reaches 63 = .ok (.aload_n 0, 1) := by decide +kernel
theorem kd_M_reaches_64 : decode kc_M_reaches 64 = .ok (.getfield 94, 3) := by decide +kernel
theorem kd_M_reaches_67 : decode kc_M_reaches 67 = .ok (.iload 4, 2) := by decide +kernel
theorem kd_M_reaches_69 : decode kc_M_reaches 69 = .ok (.baload, 1) := by decide +kernel
theorem kd_M_reaches_70 : decode kc_M_reaches 70 = .ok (.ifCond .eq 27, 3) := by decide +kernel
theorem kd_M_reaches_73 : decode kc_M_reaches 73 = .ok (.aload_n 0, 1) := by decide +kernel
theorem kd_M_reaches_74 : decode kc_M_reaches 74 = .ok (.getfield 94, 3) := by decide +kernel
theorem kd_M_reaches_77 : decode kc_M_reaches 77 = .ok (.aload_n 0, 1) := by decide +kernel
theorem kd_M_reaches_78 : decode kc_M_reaches 78 = .ok (.getfield 79, 3) := by decide +kernel
theorem kd_M_reaches_81 : decode kc_M_reaches 81 = .ok (.iconst 5, 1) := by decide +kernel
theorem kd_M_reaches_82 : decode kc_M_reaches 82 = .ok (.iload 4, 2) := by decide +kernel
theorem kd_M_reaches_84 : decode kc_M_reaches 84 = .ok (.imul, 1) := by decide +kernel
theorem kd_M_reaches_85 : decode kc_M_reaches 85 = .ok (.iload 5, 2) := by decide +kernel
theorem kd_M_reaches_87 : decode kc_M_reaches 87 = .ok (.iadd, 1) := by decide +kernel
theorem kd_M_reaches_88 : decode kc_M_reaches 88 = .ok (.iaload, 1) := by decide +kernel
theorem kd_M_reaches_89 : decode kc_M_reaches 89 = .ok (.iconst 1, 1) := by decide +kernel
theorem kd_M_reaches_90 : decode kc_M_reaches 90 = .ok (.bastore, 1) := by decide +kernel
theorem kd_M_reaches_91 : decode kc_M_reaches 91 = .ok (.iinc 5 1, 3) := by decide +kernel
theorem kd_M_reaches_94 : decode kc_M_reaches 94 = .ok (.goto (-43), 3) := by decide +kernel
theorem kd_M_reaches_97 : decode kc_M_reaches 97 = .ok (.iinc 4 1, 3) := by decide +kernel
theorem kd_M_reaches_100 : decode kc_M_reaches 100 = .ok (.goto (-59), 3) := by decide +kernel
theorem kd_M_reaches_103 : decode kc_M_reaches 103 = .ok (.iinc 3 1, 3) := by decide +kernel
theorem kd_M_reaches_106 : decode kc_M_reaches 106 = .ok (.goto (-74), 3) := by decide +kernel
theorem kd_M_reaches_109 : decode kc_M_reaches 109 = .ok (.aload_n 0, 1) := by decide +kernel
theorem kd_M_reaches_110 : decode kc_M_reaches 110 = .ok (.getfield 94, 3) := by decide +kernel
theorem kd_M_reaches_113 : decode kc_M_reaches 113 = .ok (.iload_n 2, 1) := by decide +kernel
theorem kd_M_reaches_114 : decode kc_M_reaches 114 = .ok (.baload, 1) := by decide +kernel
theorem kd_M_reaches_115 : decode kc_M_reaches 115 = .ok (.ireturn, 1) := by decide +kernel
theorem kd_M_part_0 : decode kc_M_part 0 = .ok (.iload_n 1, 1) := by decide +kernel
theorem kd_M_part_1 : decode kc_M_part 1 = .ok (.iconst 0, 1) := by decide +kernel
theorem kd_M_part_2 : decode kc_M_part 2 = .ok (.bipush 15, 2) := by decide +kernel
theorem kd_M_part_4 : decode kc_M_part 4 = .ok (.invokestatic 204, 3) := by decide +kernel
theorem kd_M_part_7 : decode kc_M_part 7 = .ok (.ifCond .eq 38, 3) := by decide +kernel
theorem kd_M_part_10 : decode kc_M_part 10 = .ok (.iload_n 2, 1) := by decide +kernel
theorem kd_M_part_11 : decode kc_M_part 11 = .ok (.iconst 0, 1) := by decide +kernel
theorem kd_M_part_12 : decode kc_M_part 12 = .ok (.bipush 15, 2) := by decide +kernel
theorem kd_M_part_14 : decode kc_M_part 14 = .ok (.invokestatic 204, 3) := by decide +kernel
theorem kd_M_part_17 : decode kc_M_part 17 = .ok (.ifCond .eq 28, 3) := by decide +kernel
theorem kd_M_part_20 : decode kc_M_part 20 = .ok (.iload_n 3, 1) := by decide +kernel
theorem kd_M_part_21 : decode kc_M_part 21 = .ok (.iconst 0, 1) := by decide +kernel
theorem kd_M_part_22 : decode kc_M_part 22 = .ok (.ldc 242, 2) := by decide +kernel
theorem kd_M_part_24 : decode kc_M_part 24 = .ok (.invokestatic 204, 3) := by decide +kernel
theorem kd_M_part_27 : decode kc_M_part 27 = .ok (.ifCond .eq 18, 3) := by decide +kernel
theorem kd_M_part_30 : decode kc_M_part 30 = .ok (.iload 4, 2) := by decide +kernel
theorem kd_M_part_32 : decode kc_M_part 32 = .ok (.iconst 0, 1) := by decide +kernel
theorem kd_M_part_33 : decode kc_M_part 33 = .ok (.bipush 7, 2) := by decide +kernel
theorem kd_M_part_35 : decode kc_M_part 35 = .ok (.invokestatic 204, 3) := by decide +kernel
theorem kd_M_part_38 : decode kc_M_part 38 = .ok (.ifCond .eq 7, 3) := by decide +kernel
theorem kd_M_part_41 : decode kc_M_part 41 = .ok (.iconst 1, 1) := by decide +kernel
theorem kd_M_part_42 : decode kc_M_part 42 = .ok (.goto 4, 3) := by decide +kernel
theorem kd_M_part_45 : decode kc_M_part 45 = .ok (.iconst 0, 1) := by decide +kernel
theorem kd_M_part_46 : decode kc_M_part 46 = .ok (.istore 5, 2) := by decide +kernel
theorem kd_M_part_48 : decode kc_M_part 48 = .ok (.aload_n 0, 1) := by decide +kernel
theorem kd_M_part_49 : decode kc_M_part 49 = .ok (.iload 5, 2) := by decide +kernel
theorem kd_M_part_51 : decode kc_M_part 51 = .ok (.ifCond .eq 12, 3) := by decide +kernel
theorem kd_M_part_54 : decode kc_M_part 54 = .ok (.aload_n 0, 1) := by decide +kernel
theorem kd_M_part_55 : decode kc_M_part 55 = .ok (.iload_n 2, 1) := by decide +kernel
theorem kd_M_part_56 : decode kc_M_part 56 = .ok (.iload_n 1, 1) := by decide +kernel
theorem kd_M_part_57 : decode kc_M_part 57 = .ok (.invokevirtual 243, 3) := by decide +kernel
theorem kd_M_part_60 : decode kc_M_part 60 = .ok (.ifCond .eq 7, 3) := by decide +kernel
theorem kd_M_part_63 : decode kc_M_part 63 = .ok (.iconst 1, 1) := by decide +kernel
theorem kd_M_part_64 : decode kc_M_part 64 = .ok (.goto 18, 3) := by decide +kernel
theorem kd_M_part_67 : decode kc_M_part 67 = .ok (.aload_n 0, 1) := by decide +kernel
theorem kd_M_part_68 : decode kc_M_part 68 = .ok (.getfield 76, 3) := by decide +kernel
theorem kd_M_part_71 : decode kc_M_part 71 = .ok (.iload_n 1, 1) := by decide +kernel
theorem kd_M_part_72 : decode kc_M_part 72 = .ok (.iaload, 1) := by decide +kernel
theorem kd_M_part_73 : decode kc_M_part 73 = .ok (.iconst 5, 1) := by decide +kernel
theorem kd_M_part_74 : decode kc_M_part 74 = .ok (.if_icmp .ne 7, 3) := by decide +kernel
theorem kd_M_part_77 : decode kc_M_part 77 = .ok (.iconst 2, 1) := by decide +kernel
theorem kd_M_part_78 : decode kc_M_part 78 = .ok (.goto 4, 3) := by decide +kernel
theorem kd_M_part_81 : decode kc_M_part 81 = .ok (.iconst 0, 1) := by decide +kernel
theorem kd_M_part_82 : decode kc_M_part 82 = .ok (.putfield 190, 3) := by decide +kernel
theorem kd_M_part_85 : decode kc_M_part 85 = .ok (.aload_n 0, 1) := by decide +kernel
theorem kd_M_part_86 : decode kc_M_part 86 = .ok (.getfield 190, 3) := by decide +kernel
theorem kd_M_part_89 : decode kc_M_part 89 = .ok (.ifCond .le 5, 3) := by decide +kernel
theorem kd_M_part_92 : decode kc_M_part 92 = .ok (.iconst 0, 1) := by decide +kernel
theorem kd_M_part_93 : decode kc_M_part 93 = .ok (.ireturn, 1) := by decide +kernel
theorem kd_M_part_94 : decode kc_M_part 94 = .ok (.iconst 5, 1) := by decide +kernel
theorem kd_M_part_95 : decode kc_M_part 95 = .ok (.iload_n 1, 1) := by decide +kernel
theorem kd_M_part_96 : decode kc_M_part 96 = .ok (.imul, 1) := by decide +kernel
theorem kd_M_part_97 : decode kc_M_part 97 = .ok (.aload_n 0, 1) := by decide +kernel
theorem kd_M_part_98 : decode kc_M_part 98 = .ok (.getfield 76, 3) := by decide +kernel
theorem kd_M_part_101 : decode kc_M_part 101 = .ok (.iload_n 1, 1) := by decide +kernel
theorem kd_M_part_102 : decode kc_M_part 102 = .ok (.iaload, 1) := by decide +kernel
theorem kd_M_part_103 : decode kc_M_part 103 = .ok (.iadd, 1) := by decide +kernel
theorem kd_M_part_104 : decode kc_M_part 104 = .ok (.istore 6, 2) := by decide +kernel
theorem kd_M_part_106 : decode kc_M_part 106 = .ok (.aload_n 0, 1) := by decide +kernel
theorem kd_M_part_107 : decode kc_M_part 107 = .ok (.getfield 79, 3) := by decide +kernel
theorem kd_M_part_110 : decode kc_M_part 110 = .ok (.iload 6, 2) := by decide +kernel
theorem kd_M_part_112 : decode kc_M_part 112 = .ok (.iload_n 2, 1) := by decide +kernel
theorem kd_M_part_113 : decode kc_M_part 113 = .ok (.iastore, 1) := by decide +kernel
theorem kd_M_part_114 : decode kc_M_part 114 = .ok (.aload_n 0, 1) := by decide +kernel
theorem kd_M_part_115 : decode kc_M_part 115 = .ok (.getfield 82, 3) := by decide +kernel
theorem kd_M_part_118 : decode kc_M_part 118 = .ok (.iload 6, 2) := by decide +kernel
theorem kd_M_part_120 : decode kc_M_part 120 = .ok (.iload_n 3, 1) := by decide +kernel
theorem kd_M_part_121 : decode kc_M_part 121 = .ok (.iastore, 1) := by decide +kernel
theorem kd_M_part_122 : decode kc_M_part 122 = .ok (.aload_n 0, 1) := by decide +kernel
theorem kd_M_part_123 : decode kc_M_part 123 = .ok (.getfield 85, 3) := by decide +kernel
theorem kd_M_part_126 : decode kc_M_part 126 = .ok (.iload 6, 2) := by decide +kernel
theorem kd_M_part_128 : decode kc_M_part 128 = .ok (.iload 4, 2) := by decide +kernel
theorem kd_M_part_130 : decode kc_M_part 130 = .ok (.iastore, 1) := by decide +kernel
theorem kd_M_part_131 : decode kc_M_part 131 = .ok (.aload_n 0, 1) := by decide +kernel
theorem kd_M_part_132 : decode kc_M_part 132 = .ok (.getfield 76, 3) := by decide +kernel
theorem kd_M_part_135 : decode kc_M_part 135 = .ok (.iload_n 1, 1) := by decide +kernel
theorem kd_M_part_136 : decode kc_M_part 136 = .ok (.dup2, 1) := by decide +kernel
theorem kd_M_part_137 : decode kc_M_part 137 = .ok (.iaload, 1) := by decide +kernel
theorem kd_M_part_138 : decode kc_M_part 138 = .ok (.iconst 1, 1) := by decide +kernel
theorem kd_M_part_139 : decode kc_M_part 139 = .ok (.iadd, 1) := by decide +kernel
theorem kd_M_part_140 : decode kc_M_part 140 = .ok (.iastore, 1) := by decide +kernel
theorem kd_M_part_141 : decode kc_M_part 141 = .ok (.aload_n 0, 1) := by decide +kernel
theorem kd_M_part_142 : decode kc_M_part 142 = .ok (.getfield 76, 3) := by decide +kernel
theorem kd_M_part_145 : decode kc_M_part 145 = .ok (.iload_n 1, 1) := by decide +kernel
theorem kd_M_part_146 : decode kc_M_part 146 = .ok (.iaload, 1) := by decide +kernel
theorem kd_M_part_147 : decode kc_M_part 147 = .ok (.ireturn, 1) := by decide +kernel
theorem kd_M_zone_0 : decode kc_M_zone 0 = .ok (.aload_n 0, 1) := by decide +kernel
theorem kd_M_zone_1 : decode kc_M_zone 1 = .ok (.iload_n 1, 1) := by decide +kernel
theorem kd_M_zone_2 : decode kc_M_zone 2 = .ok (.iconst 0, 1) := by decide +kernel
theorem kd_M_zone_3 : decode kc_M_zone 3 = .ok (.iconst 3, 1) := by decide +kernel
theorem kd_M_zone_4 : decode kc_M_zone 4 = .ok (.invokestatic 204, 3) := by decide +kernel
theorem kd_M_zone_7 : decode kc_M_zone 7 = .ok (.ifCond .eq 18, 3) := by decide +kernel
theorem kd_M_zone_10 : decode kc_M_zone 10 = .ok (.iload_n 2, 1) := by decide +kernel
theorem kd_M_zone_11 : decode kc_M_zone 11 = .ok (.iconst 0, 1) := by decide +kernel
theorem kd_M_zone_12 : decode kc_M_zone 12 = .ok (.sipush 255, 3) := by decide +kernel
theorem kd_M_zone_15 : decode kc_M_zone 15 = .ok (.invokestatic 204, 3) := by decide +kernel
