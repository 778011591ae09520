theorem kd_M_classOf_15 : decode kc_M_classOf 15 = .ok (.invokevirtual 218, 3) := by decide +kernel
theorem kd_M_classOf_18 : decode kc_M_classOf 18 = .ok (.ifCond .eq 55, 3) := by decide +kernel
theorem kd_M_classOf_21 : decode kc_M_classOf 21 = .ok (.iload_n 2, 1) := by decide +kernel
theorem kd_M_classOf_22 : decode kc_M_classOf 22 = .ok (.ifCond .ge 7, 3) := by decide +kernel
theorem kd_M_classOf_25 : decode kc_M_classOf 25 = .ok (.iconst 1, 1) := by decide +kernel
theorem kd_M_classOf_26 : decode kc_M_classOf 26 = .ok (.goto 14, 3) := by decide +kernel
theorem kd_M_classOf_29 : decode kc_M_classOf 29 = .ok (.aload_n 0, 1) := by decide +kernel
theorem kd_M_classOf_30 : decode kc_M_classOf 30 = .ok (.iload_n 3, 1) := by decide +kernel
theorem kd_M_classOf_31 : decode kc_M_classOf 31 = .ok (.invokevirtual 200, 3) := by decide +kernel
theorem kd_M_classOf_34 : decode kc_M_classOf 34 = .ok (.aload_n 0, 1) := by decide +kernel
theorem kd_M_classOf_35 : decode kc_M_classOf 35 = .ok (.iload_n 2, 1) := by decide +kernel
theorem kd_M_classOf_36 : decode kc_M_classOf 36 = .ok (.invokevirtual 200, 3) := by decide +kernel
theorem kd_M_classOf_39 : decode kc_M_classOf 39 = .ok (.isub, 1) := by decide +kernel
theorem kd_M_classOf_40 : decode kc_M_classOf 40 = .ok (.istore 4, 2) := by decide +kernel
theorem kd_M_classOf_42 : decode kc_M_classOf 42 = .ok (.iload 4, 2) := by decide +kernel
theorem kd_M_classOf_44 : decode kc_M_classOf 44 = .ok (.ifCond .gt 23, 3) := by decide +kernel
theorem kd_M_classOf_47 : decode kc_M_classOf 47 = .ok (.iload 4, 2) := by decide +kernel
theorem kd_M_classOf_49 : decode kc_M_classOf 49 = .ok (.ifCond .ne 22, 3) := by decide +kernel
theorem kd_M_classOf_52 : decode kc_M_classOf 52 = .ok (.aload_n 0, 1) := by decide +kernel
theorem kd_M_classOf_53 : decode kc_M_classOf 53 = .ok (.iload_n 3, 1) := by decide +kernel
theorem kd_M_classOf_54 : decode kc_M_classOf 54 = .ok (.iload_n 1, 1) := by decide +kernel
theorem kd_M_classOf_55 : decode kc_M_classOf 55 = .ok (.invokevirtual 221, 3) := by decide +kernel
theorem kd_M_classOf_58 : decode kc_M_classOf 58 = .ok (.aload_n 0, 1) := by decide +kernel
theorem kd_M_classOf_59 : decode kc_M_classOf 59 = .ok (.iload_n 2, 1) := by decide +kernel
theorem kd_M_classOf_60 : decode kc_M_classOf 60 = .ok (.iload_n 1, 1) := by decide +kernel
theorem kd_M_classOf_61 : decode kc_M_classOf 61 = .ok (.invokevirtual 221, 3) := by decide +kernel
theorem kd_M_classOf_64 : decode kc_M_classOf 64 = .ok (.if_icmp .lt 7, 3) := by decide +kernel
theorem kd_M_classOf_67 : decode kc_M_classOf 67 = .ok (.iload_n 3, 1) := by decide +kernel
theorem kd_M_classOf_68 : decode kc_M_classOf 68 = .ok (.goto 4, 3) := by decide +kernel
theorem kd_M_classOf_71 : decode kc_M_classOf 71 = .ok (.iload_n 2, 1) := by decide +kernel
theorem kd_M_classOf_72 : decode kc_M_classOf 72 = .ok (.istore_n 2, 1) := by decide +kernel
theorem kd_M_classOf_73 : decode kc_M_classOf 73 = .ok (.iinc 3 1, 3) := by decide +kernel
theorem kd_M_classOf_76 : decode kc_M_classOf 76 = .ok (.goto (-72), 3) := by decide +kernel
theorem kd_M_classOf_79 : decode kc_M_classOf 79 = .ok (.iload_n 2, 1) := by decide +kernel
theorem kd_M_classOf_80 : decode kc_M_classOf 80 = .ok (.ireturn, 1) := by decide +kernel
theorem kd_M_heading_0 : decode kc_M_heading 0 = .ok (.aload_n 0, 1) := by decide +kernel
theorem kd_M_heading_1 : decode kc_M_heading 1 = .ok (.iload_n 1, 1) := by decide +kernel
theorem kd_M_heading_2 : decode kc_M_heading 2 = .ok (.iconst (-1), 1) := by decide +kernel
theorem kd_M_heading_3 : decode kc_M_heading 3 = .ok (.if_icmp .eq 15, 3) := by decide +kernel
theorem kd_M_heading_6 : decode kc_M_heading 6 = .ok (.aload_n 0, 1) := by decide +kernel
theorem kd_M_heading_7 : decode kc_M_heading 7 = .ok (.iload_n 1, 1) := by decide +kernel
theorem kd_M_heading_8 : decode kc_M_heading 8 = .ok (.invokevirtual 196, 3) := by decide +kernel
theorem kd_M_heading_11 : decode kc_M_heading 11 = .ok (.ifCond .ne 7, 3) := by decide +kernel
theorem kd_M_heading_14 : decode kc_M_heading 14 = .ok (.iconst 1, 1) := by decide +kernel
theorem kd_M_heading_15 : decode kc_M_heading 15 = .ok (.goto 30, 3) := by decide +kernel
theorem kd_M_heading_18 : decode kc_M_heading 18 = .ok (.aload_n 0, 1) := by decide +kernel
theorem kd_M_heading_19 : decode kc_M_heading 19 = .ok (.getfield 193, 3) := by decide +kernel
theorem kd_M_heading_22 : decode kc_M_heading 22 = .ok (.bipush 24, 2) := by decide +kernel
theorem kd_M_heading_24 : decode kc_M_heading 24 = .ok (.if_icmp .eq 16, 3) := by decide +kernel
theorem kd_M_heading_27 : decode kc_M_heading 27 = .ok (.iload_n 1, 1) := by decide +kernel
theorem kd_M_heading_28 : decode kc_M_heading 28 = .ok (.ifCond .lt 16, 3) := by decide +kernel
theorem kd_M_heading_31 : decode kc_M_heading 31 = .ok (.aload_n 0, 1) := by decide +kernel
theorem kd_M_heading_32 : decode kc_M_heading 32 = .ok (.iload_n 1, 1) := by decide +kernel
theorem kd_M_heading_33 : decode kc_M_heading 33 = .ok (.invokevirtual 200, 3) := by decide +kernel
theorem kd_M_heading_36 : decode kc_M_heading 36 = .ok (.iconst 5, 1) := by decide +kernel
theorem kd_M_heading_37 : decode kc_M_heading 37 = .ok (.if_icmp .ne 7, 3) := by decide +kernel
theorem kd_M_heading_40 : decode kc_M_heading 40 = .ok (.iconst 2, 1) := by decide +kernel
theorem kd_M_heading_41 : decode kc_M_heading 41 = .ok (.goto 4, 3) := by decide +kernel
theorem kd_M_heading_44 : decode kc_M_heading 44 = .ok (.iconst 0, 1) := by decide +kernel
theorem kd_M_heading_45 : decode kc_M_heading 45 = .ok (.putfield 190, 3) := by decide +kernel
theorem kd_M_heading_48 : decode kc_M_heading 48 = .ok (.aload_n 0, 1) := by decide +kernel
theorem kd_M_heading_49 : decode kc_M_heading 49 = .ok (.getfield 190, 3) := by decide +kernel
theorem kd_M_heading_52 : decode kc_M_heading 52 = .ok (.ifCond .le 5, 3) := by decide +kernel
theorem kd_M_heading_55 : decode kc_M_heading 55 = .ok (.iconst 0, 1) := by decide +kernel
theorem kd_M_heading_56 : decode kc_M_heading 56 = .ok (.ireturn, 1) := by decide +kernel
theorem kd_M_heading_57 : decode kc_M_heading 57 = .ok (.aload_n 0, 1) := by decide +kernel
theorem kd_M_heading_58 : decode kc_M_heading 58 = .ok (.getfield 7, 3) := by decide +kernel
theorem kd_M_heading_61 : decode kc_M_heading 61 = .ok (.aload_n 0, 1) := by decide +kernel
theorem kd_M_heading_62 : decode kc_M_heading 62 = .ok (.getfield 193, 3) := by decide +kernel
theorem kd_M_heading_65 : decode kc_M_heading 65 = .ok (.iload_n 1, 1) := by decide +kernel
theorem kd_M_heading_66 : decode kc_M_heading 66 = .ok (.iastore, 1) := by decide +kernel
theorem kd_M_heading_67 : decode kc_M_heading 67 = .ok (.aload_n 0, 1) := by decide +kernel
theorem kd_M_heading_68 : decode kc_M_heading 68 = .ok (.getfield 13, 3) := by decide +kernel
theorem kd_M_heading_71 : decode kc_M_heading 71 = .ok (.aload_n 0, 1) := by decide +kernel
theorem kd_M_heading_72 : decode kc_M_heading 72 = .ok (.getfield 193, 3) := by decide +kernel
theorem kd_M_heading_75 : decode kc_M_heading 75 = .ok (.iconst (-1), 1) := by decide +kernel
theorem kd_M_heading_76 : decode kc_M_heading 76 = .ok (.iastore, 1) := by decide +kernel
theorem kd_M_heading_77 : decode kc_M_heading 77 = .ok (.aload_n 0, 1) := by decide +kernel
theorem kd_M_heading_78 : decode kc_M_heading 78 = .ok (.dup, 1) := by decide +kernel
theorem kd_M_heading_79 : decode kc_M_heading 79 = .ok (.getfield 193, 3) := by decide +kernel
theorem kd_M_heading_82 : decode kc_M_heading 82 = .ok (.iconst 1, 1) := by decide +kernel
theorem kd_M_heading_83 : decode kc_M_heading 83 = .ok (.iadd, 1) := by decide +kernel
theorem kd_M_heading_84 : decode kc_M_heading 84 = .ok (.putfield 193, 3) := by decide +kernel
theorem kd_M_heading_87 : decode kc_M_heading 87 = .ok (.aload_n 0, 1) := by decide +kernel
theorem kd_M_heading_88 : decode kc_M_heading 88 = .ok (.getfield 193, 3) := by decide +kernel
theorem kd_M_heading_91 : decode kc_M_heading 91 = .ok (.iconst 1, 1) := by decide +kernel
theorem kd_M_heading_92 : decode kc_M_heading 92 = .ok (.isub, 1) := by decide +kernel
theorem kd_M_heading_93 : decode kc_M_heading 93 = .ok (.ireturn, 1) := by decide +kernel
theorem kd_M_note_0 : decode kc_M_note 0 = .ok (.aload_n 0, 1) := by decide +kernel
theorem kd_M_note_1 : decode kc_M_note 1 = .ok (.iload_n 1, 1) := by decide +kernel
theorem kd_M_note_2 : decode kc_M_note 2 = .ok (.invokevirtual 196, 3) := by decide +kernel
theorem kd_M_note_5 : decode kc_M_note 5 = .ok (.ifCond .eq 47, 3) := by decide +kernel
theorem kd_M_note_8 : decode kc_M_note 8 = .ok (.iload_n 2, 1) := by decide +kernel
theorem kd_M_note_9 : decode kc_M_note 9 = .ok (.iconst 0, 1) := by decide +kernel
theorem kd_M_note_10 : decode kc_M_note 10 = .ok (.iconst 2, 1) := by decide +kernel
theorem kd_M_note_11 : decode kc_M_note 11 = .ok (.invokestatic 204, 3) := by decide +kernel
theorem kd_M_note_14 : decode kc_M_note 14 = .ok (.ifCond .eq 38, 3) := by decide +kernel
theorem kd_M_note_17 : decode kc_M_note 17 = .ok (.iload_n 3, 1) := by decide +kernel
theorem kd_M_note_18 : decode kc_M_note 18 = .ok (.iconst 0, 1) := by decide +kernel
theorem kd_M_note_19 : decode kc_M_note 19 = .ok (.iload_n 2, 1) := by decide +kernel
theorem kd_M_note_20 : decode kc_M_note 20 = .ok (.iconst 2, 1) := by decide +kernel
theorem kd_M_note_21 : decode kc_M_note 21 = .ok (.if_icmp .ne 7, 3) := by decide +kernel
theorem kd_M_note_24 : decode kc_M_note 24 = .ok (.iconst 3, 1) := by decide +kernel
theorem kd_M_note_25 : decode kc_M_note 25 = .ok (.goto 5, 3) := by decide +kernel
theorem kd_M_note_28 : decode kc_M_note 28 = .ok (.bipush 7, 2) := by decide +kernel
theorem kd_M_note_30 : decode kc_M_note 30 = .ok (.invokestatic 204, 3) := by decide +kernel
theorem kd_M_note_33 : decode kc_M_note 33 = .ok (.ifCond .eq 19, 3) := by decide +kernel
theorem kd_M_note_36 : decode kc_M_note 36 = .ok (.iload 4, 2) := by decide +kernel
theorem kd_M_note_38 : decode kc_M_note 38 = .ok (.iconst 1, 1) := by decide +kernel
theorem kd_M_note_39 : decode kc_M_note 39 = .ok (.sipush 1000, 3) := by decide +kernel
theorem kd_M_note_42 : decode kc_M_note 42 = .ok (.invokestatic 204, 3) := by decide +kernel
theorem kd_M_note_45 : decode kc_M_note 45 = .ok (.ifCond .eq 7, 3) := by decide +kernel
theorem kd_M_note_48 : decode kc_M_note 48 = .ok (.iconst 1, 1) := by decide +kernel
theorem kd_M_note_49 : decode kc_M_note 49 = .ok (.goto 4, 3) := by decide +kernel
theorem kd_M_note_52 : decode kc_M_note 52 = .ok (.iconst 0, 1) := by decide +kernel
theorem kd_M_note_53 : decode kc_M_note 53 = .ok (.istore 5, 2) := by decide +kernel
theorem kd_M_note_55 : decode kc_M_note 55 = .ok (.aload_n 0, 1) := by decide +kernel
theorem kd_M_note_56 : decode kc_M_note 56 = .ok (.iload 5, 2) := by decide +kernel
theorem kd_M_note_58 : decode kc_M_note 58 = .ok (.ifCond .ne 7, 3) := by decide +kernel
theorem kd_M_note_61 : decode kc_M_note 61 = .ok (.iconst 1, 1) := by decide +kernel
theorem kd_M_note_62 : decode kc_M_note 62 = .ok (.goto 17, 3) := by decide +kernel
theorem kd_M_note_65 : decode kc_M_note 65 = .ok (.aload_n 0, 1) := by decide +kernel
theorem kd_M_note_66 : decode kc_M_note 66 = .ok (.getfield 208, 3) := by decide +kernel
theorem kd_M_note_69 : decode kc_M_note 69 = .ok (.bipush 40, 2) := by decide +kernel
theorem kd_M_note_71 : decode kc_M_note 71 = .ok (.if_icmp .ne 7, 3) := by decide +kernel
theorem kd_M_note_74 : decode kc_M_note 74 = .ok (.iconst 2, 1) := by decide +kernel
theorem kd_M_note_75 : decode kc_M_note 75 = .ok (.goto 4, 3) := by decide +kernel
theorem kd_M_note_78 : decode kc_M_note 78 = .ok (.iconst 0, 1) := by decide +kernel
theorem kd_M_note_79 : decode kc_M_note 79 = .ok (.putfield 190, 3) := by decide +kernel
theorem kd_M_note_82 : decode kc_M_note 82 = .ok (.aload_n 0, 1) := by decide +kernel
theorem kd_M_note_83 : decode kc_M_note 83 = .ok (.getfield 190, 3) := by decide +kernel
theorem kd_M_note_86 : decode kc_M_note 86 = .ok (.ifCond .le 5, 3) := by decide +kernel
theorem kd_M_note_89 : decode kc_M_note 89 = .ok (.iconst 0, 1) := by decide +kernel
theorem kd_M_note_90 : decode kc_M_note 90 = .ok (.ireturn, 1) := by decide +kernel
theorem kd_M_note_91 : decode kc_M_note 91 = .ok (.aload_n 0, 1) := by decide +kernel
theorem kd_M_note_92 : decode kc_M_note 92 = .ok (.getfield 19, 3) := by decide +kernel
theorem kd_M_note_95 : decode kc_M_note 95 = .ok (.aload_n 0, 1) := by decide +kernel
theorem kd_M_note_96 : decode kc_M_note 96 = .ok (.getfield 208, 3) := by decide +kernel
theorem kd_M_note_99 : decode kc_M_note 99 = .ok (.iload_n 1, 1) := by decide +kernel
theorem kd_M_note_100 : decode kc_M_note 100 = .ok (.iastore, 1) := by decide +kernel
theorem kd_M_note_101 : decode kc_M_note 101 = .ok (.aload_n 0, 1) := by decide +kernel
theorem kd_M_note_102 : decode kc_M_note 102 = .ok (.getfield 22, 3) := by decide +kernel
theorem kd_M_note_105 : decode kc_M_note 105 = .ok (.aload_n 0, 1) := by decide +kernel
theorem kd_M_note_106 : decode kc_M_note 106 = .ok (.getfield 208, 3) := by decide +kernel
theorem kd_M_note_109 : decode kc_M_note 109 = .ok (.iload_n 2, 1) := by decide +kernel
theorem kd_M_note_110 : decode kc_M_note 110 = .ok (.iastore, 1) := by decide +kernel
theorem kd_M_note_111 : decode kc_M_note 111 = .ok (.aload_n 0, 1) := by decide +kernel
theorem kd_M_note_112 : decode kc_M_note 112 = .ok (.getfield 25, 3) := by decide +kernel
theorem kd_M_note_115 : decode kc_M_note 115 = .ok (.aload_n 0, 1) := by decide +kernel
theorem kd_M_note_116 : decode kc_M_note 116 = .ok (.getfield 208, 3) := by decide +kernel
theorem kd_M_note_119 : decode kc_M_note 119 = .ok (.iload_n 3, 1) := by decide +kernel
theorem kd_M_note_120 : decode kc_M_note 120 = .ok (.iastore, 1) := by decide +kernel
theorem kd_M_note_121 : decode kc_M_note 121 = .ok (.aload_n 0, 1) := by decide +kernel
theorem kd_M_note_122 : decode kc_M_note 122 = .ok (.getfield 28, 3) := by decide +kernel
theorem kd_M_note_125 : decode kc_M_note 125 = .ok (.aload_n 0, 1) := by decide +kernel
theorem kd_M_note_126 : decode kc_M_note 126 = .ok (.getfield 208, 3) := by decide +kernel
theorem kd_M_note_129 : decode kc_M_note 129 = .ok (.iload 4, 2) := by decide +kernel
theorem kd_M_note_131 : decode kc_M_note 131 = .ok (.iastore, 1) := by decide +kernel
theorem kd_M_note_132 : decode kc_M_note 132 = .ok (.aload_n 0, 1) := by decide +kernel
theorem kd_M_note_133 : decode kc_M_note 133 = .ok (.dup, 1) := by decide +kernel
theorem kd_M_note_134 : decode kc_M_note 134 = .ok (.getfield 208, 3) := by decide +kernel
theorem kd_M_note_137 : decode kc_M_note 137 = .ok (.iconst 1, 1) := by decide +kernel
theorem kd_M_note_138 : decode kc_M_note 138 = .ok (.iadd, 1) := by decide +kernel
theorem kd_M_note_139 : decode kc_M_note 139 = .ok (.putfield 208, 3) := by decide +kernel
theorem kd_M_note_142 : decode kc_M_note 142 = .ok (.aload_n 0, 1) := by decide +kernel
theorem kd_M_note_143 : decode kc_M_note 143 = .ok (.getfield 208, 3) := by decide +kernel
theorem kd_M_note_146 : decode kc_M_note 146 = .ok (.iconst 1, 1) := by decide +kernel
theorem kd_M_note_147 : decode kc_M_note 147 = .ok (.isub, 1) := by decide +kernel
theorem kd_M_note_148 : decode kc_M_note 148 = .ok (.ireturn, 1) := by decide +kernel
theorem kd_M_fact_0 : decode kc_M_fact 0 = .ok (.aload_n 0, 1) := by decide +kernel
theorem kd_M_fact_1 : decode kc_M_fact 1 = .ok (.iload_n 1, 1) := by decide +kernel
theorem kd_M_fact_2 : decode kc_M_fact 2 = .ok (.iconst 0, 1) := by decide +kernel
theorem kd_M_fact_3 : decode kc_M_fact 3 = .ok (.bipush 15, 2) := by decide +kernel
theorem kd_M_fact_5 : decode kc_M_fact 5 = .ok (.invokestatic 204, 3) := by decide +kernel
theorem kd_M_fact_8 : decode kc_M_fact 8 = .ok (.ifCond .eq 28, 3) := by decide +kernel
theorem kd_M_fact_11 : decode kc_M_fact 11 = .ok (.iload_n 2, 1) := by decide +kernel
theorem kd_M_fact_12 : decode kc_M_fact 12 = .ok (.iconst 0, 1) := by decide +kernel
theorem kd_M_fact_13 : decode kc_M_fact 13 = .ok (.bipush 7, 2) := by decide +kernel
theorem kd_M_fact_15 : decode kc_M_fact 15 = .ok (.invokestatic 204, 3) := by decide +kernel
theorem kd_M_fact_18 : decode kc_M_fact 18 = .ok (.ifCond .eq 18, 3) := by decide +kernel
theorem kd_M_fact_21 : decode kc_M_fact 21 = .ok (.iload_n 3, 1) := by decide +kernel
theorem kd_M_fact_22 : decode kc_M_fact 22 = .ok (.iconst 0, 1) := by decide +kernel
theorem kd_M_fact_23 : decode kc_M_fact 23 = .ok (.sipush 1000, 3) := by decide +kernel
theorem kd_M_fact_26 : decode kc_M_fact 26 = .ok (.invokestatic 204, 3) := by decide +kernel
theorem kd_M_fact_29 : decode kc_M_fact 29 = .ok (.ifCond .eq 7, 3) := by decide +kernel
theorem kd_M_fact_32 : decode kc_M_fact 32 = .ok (.iconst 0, 1) := by decide +kernel
theorem kd_M_fact_33 : decode kc_M_fact 33 = .ok (.goto 4, 3) := by decide +kernel
theorem kd_M_fact_36 : decode kc_M_fact 36 = .ok (.iconst 1, 1) := by decide +kernel
theorem kd_M_fact_37 : decode kc_M_fact 37 = .ok (.putfield 190, 3) := by decide +kernel
theorem kd_M_fact_40 : decode kc_M_fact 40 = .ok (.aload_n 0, 1) := by decide +kernel
theorem kd_M_fact_41 : decode kc_M_fact 41 = .ok (.getfield 190, 3) := by decide +kernel
theorem kd_M_fact_44 : decode kc_M_fact 44 = .ok (.ifCond .le 5, 3) := by decide +kernel
theorem kd_M_fact_47 : decode kc_M_fact 47 = .ok (.iconst 0, 1) := by decide +kernel
theorem kd_M_fact_48 : decode kc_M_fact 48 = .ok (.ireturn, 1) := by decide +kernel
theorem kd_M_fact_49 : decode kc_M_fact 49 = .ok (.aload_n 0, 1) := by decide +kernel
theorem kd_M_fact_50 : decode kc_M_fact 50 = .ok (.getfield 73, 3) := by decide +kernel
theorem kd_M_fact_53 : decode kc_M_fact 53 = .ok (.bipush 8, 2) := by decide +kernel
theorem kd_M_fact_55 : decode kc_M_fact 55 = .ok (.iload_n 1, 1) := by decide +kernel
theorem kd_M_fact_56 : decode kc_M_fact 56 = .ok (.imul, 1) := by decide +kernel
theorem kd_M_fact_57 : decode kc_M_fact 57 = .ok (.iload_n 2, 1) := by decide +kernel
theorem kd_M_fact_58 : decode kc_M_fact 58 = .ok (.iadd, 1) := by decide +kernel
theorem kd_M_fact_59 : decode kc_M_fact 59 = .ok (.iaload, 1) := by decide +kernel
theorem kd_M_fact_60 : decode kc_M_fact 60 = .ok (.istore 4, 2) := by decide +kernel
theorem kd_M_fact_62 : decode kc_M_fact 62 = .ok (.aload_n 0, 1) := by decide +kernel
theorem kd_M_fact_63 : decode kc_M_fact 63 = .ok (.getfield 73, 3) := by decide +kernel
theorem kd_M_fact_66 : decode kc_M_fact 66 = .ok (.bipush 8, 2) := by decide +kernel
theorem kd_M_fact_68 : decode kc_M_fact 68 = .ok (.iload_n 1, 1) := by decide +kernel
theorem kd_M_fact_69 : decode kc_M_fact 69 = .ok (.imul, 1) := by decide +kernel
theorem kd_M_fact_70 : decode kc_M_fact 70 = .ok (.iload_n 2, 1) := by decide +kernel
theorem kd_M_fact_71 : decode kc_M_fact 71 = .ok (.iadd, 1) := by decide +kernel
theorem kd_M_fact_72 : decode kc_M_fact 72 = .ok (.iload_n 3, 1) := by decide +kernel
theorem kd_M_fact_73 : decode kc_M_fact 73 = .ok (.iastore, 1) := by decide +kernel
theorem kd_M_fact_74 : decode kc_M_fact 74 = .ok (.iload 4, 2) := by decide +kernel
theorem kd_M_fact_76 : decode kc_M_fact 76 = .ok (.ireturn, 1) := by decide +kernel
theorem kd_M_classify_0 : decode kc_M_classify 0 = .ok (.aload_n 0, 1) := by decide +kernel
theorem kd_M_classify_1 : decode kc_M_classify 1 = .ok (.iload_n 1, 1) := by decide +kernel
theorem kd_M_classify_2 : decode kc_M_classify 2 = .ok (.iconst 0, 1) := by decide +kernel
theorem kd_M_classify_3 : decode kc_M_classify 3 = .ok (.bipush 15, 2) := by decide +kernel
theorem kd_M_classify_5 : decode kc_M_classify 5 = .ok (.invokestatic 204, 3) := by decide +kernel
theorem kd_M_classify_8 : decode kc_M_classify 8 = .ok (.ifCond .eq 7, 3) := by decide +kernel
theorem kd_M_classify_11 : decode kc_M_classify 11 = .ok (.iconst 0, 1) := by decide +kernel
theorem kd_M_classify_12 : decode kc_M_classify 12 = .ok (.goto 4, 3) := by decide +kernel
theorem kd_M_classify_15 : decode kc_M_classify 15 = .ok (.iconst 1, 1) := by decide +kernel
theorem kd_M_classify_16 : decode kc_M_classify 16 = .ok (.putfield 190, 3) := by decide +kernel
theorem kd_M_classify_19 : decode kc_M_classify 19 = .ok (.aload_n 0, 1) := by decide +kernel
theorem kd_M_classify_20 : decode kc_M_classify 20 = .ok (.getfield 190, 3) := by decide +kernel
theorem kd_M_classify_23 : decode kc_M_classify 23 = .ok (.ifCond .le 7, 3) := by decide +kernel
theorem kd_M_classify_26 : decode kc_M_classify 26 = .ok (.iconst 0, 1) := by decide +kernel
theorem kd_M_classify_27 : decode kc_M_classify 27 = .ok (.goto 8, 3) := by decide +kernel
theorem kd_M_classify_30 : decode kc_M_classify 30 = .ok (.aload_n 0, 1) := by decide +kernel
theorem kd_M_classify_31 : decode kc_M_classify 31 = .ok (.iload_n 1, 1) := by decide +kernel
theorem kd_M_classify_32 : decode kc_M_classify 32 = .ok (.invokevirtual 225, 3) := by decide +kernel
theorem kd_M_classify_35 : decode kc_M_classify 35 = .ok (.ireturn, 1) := by decide +kernel
theorem kd_M_rate_0 : decode kc_M_rate 0 = .ok (.aload_n 0, 1) := by decide +kernel
theorem kd_M_rate_1 : decode kc_M_rate 1 = .ok (.iload_n 1, 1) := by decide +kernel
theorem kd_M_rate_2 : decode kc_M_rate 2 = .ok (.invokevirtual 196, 3) := by decide +kernel
theorem kd_M_rate_5 : decode kc_M_rate 5 = .ok (.ifCond .eq 50, 3) := by decide +kernel
theorem kd_M_rate_8 : decode kc_M_rate 8 = .ok (.iload_n 2, 1) := by decide +kernel
theorem kd_M_rate_9 : decode kc_M_rate 9 = .ok (.iconst (-1), 1) := by decide +kernel
theorem kd_M_rate_10 : decode kc_M_rate 10 = .ok (.bipush 7, 2) := by decide +kernel
theorem kd_M_rate_12 : decode kc_M_rate 12 = .ok (.invokestatic 204, 3) := by decide +kernel
theorem kd_M_rate_15 : decode kc_M_rate 15 = .ok (.ifCond .eq 40, 3) := by decide +kernel
theorem kd_M_rate_18 : decode kc_M_rate 18 = .ok (.iload_n 3, 1) := by decide +kernel
theorem kd_M_rate_19 : decode kc_M_rate 19 = .ok (.iconst 0, 1) := by decide +kernel
theorem kd_M_rate_20 : decode kc_M_rate 20 = .ok (.iconst 3, 1) := by decide +kernel
theorem kd_M_rate_21 : decode kc_M_rate 21 = .ok (.invokestatic 204, 3) := by decide +kernel
theorem kd_M_rate_24 : decode kc_M_rate 24 = .ok (.ifCond .eq 31, 3) := by decide +kernel
theorem kd_M_rate_27 : decode kc_M_rate 27 = .ok (.iload 4, 2) := by decide +kernel
theorem kd_M_rate_29 : decode kc_M_rate 29 = .ok (.iconst 0, 1) := by decide +kernel
theorem kd_M_rate_30 : decode kc_M_rate 30 = .ok (.sipush 10000, 3) := by decide +kernel
