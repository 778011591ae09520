theorem kd_M_line_177 : decode kc_M_line 177 = .ok (.iconst 2, 1) := by decide +kernel
theorem kd_M_line_178 : decode kc_M_line 178 = .ok (.iadd, 1) := by decide +kernel
theorem kd_M_line_179 : decode kc_M_line 179 = .ok (.iload 6, 2) := by decide +kernel
theorem kd_M_line_181 : decode kc_M_line 181 = .ok (.iastore, 1) := by decide +kernel
theorem kd_M_line_182 : decode kc_M_line 182 = .ok (.aload_n 0, 1) := by decide +kernel
theorem kd_M_line_183 : decode kc_M_line 183 = .ok (.getfield 107, 3) := by decide +kernel
theorem kd_M_line_186 : decode kc_M_line 186 = .ok (.iload_n 1, 1) := by decide +kernel
theorem kd_M_line_187 : decode kc_M_line 187 = .ok (.dup2, 1) := by decide +kernel
theorem kd_M_line_188 : decode kc_M_line 188 = .ok (.iaload, 1) := by decide +kernel
theorem kd_M_line_189 : decode kc_M_line 189 = .ok (.iconst 1, 1) := by decide +kernel
theorem kd_M_line_190 : decode kc_M_line 190 = .ok (.iadd, 1) := by decide +kernel
theorem kd_M_line_191 : decode kc_M_line 191 = .ok (.iastore, 1) := by decide +kernel
theorem kd_M_line_192 : decode kc_M_line 192 = .ok (.aload_n 0, 1) := by decide +kernel
theorem kd_M_line_193 : decode kc_M_line 193 = .ok (.getfield 107, 3) := by decide +kernel
theorem kd_M_line_196 : decode kc_M_line 196 = .ok (.iload_n 1, 1) := by decide +kernel
theorem kd_M_line_197 : decode kc_M_line 197 = .ok (.iaload, 1) := by decide +kernel
theorem kd_M_line_198 : decode kc_M_line 198 = .ok (.iconst 1, 1) := by decide +kernel
theorem kd_M_line_199 : decode kc_M_line 199 = .ok (.isub, 1) := by decide +kernel
theorem kd_M_line_200 : decode kc_M_line 200 = .ok (.ireturn, 1) := by decide +kernel
theorem kd_M_charge_0 : decode kc_M_charge 0 = .ok (.aload_n 0, 1) := by decide +kernel
theorem kd_M_charge_1 : decode kc_M_charge 1 = .ok (.aload_n 0, 1) := by decide +kernel
theorem kd_M_charge_2 : decode kc_M_charge 2 = .ok (.iload_n 1, 1) := by decide +kernel
theorem kd_M_charge_3 : decode kc_M_charge 3 = .ok (.invokevirtual 254, 3) := by decide +kernel
theorem kd_M_charge_6 : decode kc_M_charge 6 = .ok (.ifCond .eq 23, 3) := by decide +kernel
theorem kd_M_charge_9 : decode kc_M_charge 9 = .ok (.iload_n 2, 1) := by decide +kernel
theorem kd_M_charge_10 : decode kc_M_charge 10 = .ok (.iconst 0, 1) := by decide +kernel
theorem kd_M_charge_11 : decode kc_M_charge 11 = .ok (.iconst 1, 1) := by decide +kernel
theorem kd_M_charge_12 : decode kc_M_charge 12 = .ok (.invokestatic 204, 3) := by decide +kernel
theorem kd_M_charge_15 : decode kc_M_charge 15 = .ok (.ifCond .eq 14, 3) := by decide +kernel
theorem kd_M_charge_18 : decode kc_M_charge 18 = .ok (.iload_n 3, 1) := by decide +kernel
theorem kd_M_charge_19 : decode kc_M_charge 19 = .ok (.iconst 0, 1) := by decide +kernel
theorem kd_M_charge_20 : decode kc_M_charge 20 = .ok (.ldc_w 261, 3) := by decide +kernel
theorem kd_M_charge_23 : decode kc_M_charge 23 = .ok (.invokestatic 204, 3) := by decide +kernel
theorem kd_M_charge_26 : decode kc_M_charge 26 = .ok (.ifCond .ne 7, 3) := by decide +kernel
theorem kd_M_charge_29 : decode kc_M_charge 29 = .ok (.iconst 1, 1) := by decide +kernel
theorem kd_M_charge_30 : decode kc_M_charge 30 = .ok (.goto 17, 3) := by decide +kernel
theorem kd_M_charge_33 : decode kc_M_charge 33 = .ok (.aload_n 0, 1) := by decide +kernel
theorem kd_M_charge_34 : decode kc_M_charge 34 = .ok (.getfield 113, 3) := by decide +kernel
theorem kd_M_charge_37 : decode kc_M_charge 37 = .ok (.iload_n 1, 1) := by decide +kernel
theorem kd_M_charge_38 : decode kc_M_charge 38 = .ok (.baload, 1) := by decide +kernel
theorem kd_M_charge_39 : decode kc_M_charge 39 = .ok (.ifCond .eq 7, 3) := by decide +kernel
theorem kd_M_charge_42 : decode kc_M_charge 42 = .ok (.iconst 2, 1) := by decide +kernel
theorem kd_M_charge_43 : decode kc_M_charge 43 = .ok (.goto 4, 3) := by decide +kernel
theorem kd_M_charge_46 : decode kc_M_charge 46 = .ok (.iconst 0, 1) := by decide +kernel
theorem kd_M_charge_47 : decode kc_M_charge 47 = .ok (.putfield 190, 3) := by decide +kernel
theorem kd_M_charge_50 : decode kc_M_charge 50 = .ok (.aload_n 0, 1) := by decide +kernel
theorem kd_M_charge_51 : decode kc_M_charge 51 = .ok (.getfield 190, 3) := by decide +kernel
theorem kd_M_charge_54 : decode kc_M_charge 54 = .ok (.ifCond .ne 14, 3) := by decide +kernel
theorem kd_M_charge_57 : decode kc_M_charge 57 = .ok (.aload_n 0, 1) := by decide +kernel
theorem kd_M_charge_58 : decode kc_M_charge 58 = .ok (.getfield 110, 3) := by decide +kernel
theorem kd_M_charge_61 : decode kc_M_charge 61 = .ok (.iconst 2, 1) := by decide +kernel
theorem kd_M_charge_62 : decode kc_M_charge 62 = .ok (.iload_n 1, 1) := by decide +kernel
theorem kd_M_charge_63 : decode kc_M_charge 63 = .ok (.imul, 1) := by decide +kernel
theorem kd_M_charge_64 : decode kc_M_charge 64 = .ok (.iload_n 2, 1) := by decide +kernel
theorem kd_M_charge_65 : decode kc_M_charge 65 = .ok (.iadd, 1) := by decide +kernel
theorem kd_M_charge_66 : decode kc_M_charge 66 = .ok (.iload_n 3, 1) := by decide +kernel
theorem kd_M_charge_67 : decode kc_M_charge 67 = .ok (.iastore, 1) := by decide +kernel
theorem kd_M_charge_68 : decode kc_M_charge 68 = .ok (.return_, 1) := by decide +kernel
theorem kd_M_lineOf_0 : decode kc_M_lineOf 0 = .ok (.aload_n 0, 1) := by decide +kernel
theorem kd_M_lineOf_1 : decode kc_M_lineOf 1 = .ok (.aload_n 0, 1) := by decide +kernel
theorem kd_M_lineOf_2 : decode kc_M_lineOf 2 = .ok (.iload_n 1, 1) := by decide +kernel
theorem kd_M_lineOf_3 : decode kc_M_lineOf 3 = .ok (.iload_n 2, 1) := by decide +kernel
theorem kd_M_lineOf_4 : decode kc_M_lineOf 4 = .ok (.invokevirtual 290, 3) := by decide +kernel
theorem kd_M_lineOf_7 : decode kc_M_lineOf 7 = .ok (.ifCond .eq 16, 3) := by decide +kernel
theorem kd_M_lineOf_10 : decode kc_M_lineOf 10 = .ok (.iload_n 3, 1) := by decide +kernel
theorem kd_M_lineOf_11 : decode kc_M_lineOf 11 = .ok (.iconst 0, 1) := by decide +kernel
theorem kd_M_lineOf_12 : decode kc_M_lineOf 12 = .ok (.iconst 2, 1) := by decide +kernel
theorem kd_M_lineOf_13 : decode kc_M_lineOf 13 = .ok (.invokestatic 204, 3) := by decide +kernel
theorem kd_M_lineOf_16 : decode kc_M_lineOf 16 = .ok (.ifCond .eq 7, 3) := by decide +kernel
theorem kd_M_lineOf_19 : decode kc_M_lineOf 19 = .ok (.iconst 0, 1) := by decide +kernel
theorem kd_M_lineOf_20 : decode kc_M_lineOf 20 = .ok (.goto 4, 3) := by decide +kernel
theorem kd_M_lineOf_23 : decode kc_M_lineOf 23 = .ok (.iconst 1, 1) := by decide +kernel
theorem kd_M_lineOf_24 : decode kc_M_lineOf 24 = .ok (.putfield 190, 3) := by decide +kernel
theorem kd_M_lineOf_27 : decode kc_M_lineOf 27 = .ok (.aload_n 0, 1) := by decide +kernel
theorem kd_M_lineOf_28 : decode kc_M_lineOf 28 = .ok (.getfield 190, 3) := by decide +kernel
theorem kd_M_lineOf_31 : decode kc_M_lineOf 31 = .ok (.ifCond .le 5, 3) := by decide +kernel
theorem kd_M_lineOf_34 : decode kc_M_lineOf 34 = .ok (.lconst 0, 1) := by decide +kernel
theorem kd_M_lineOf_35 : decode kc_M_lineOf 35 = .ok (.lreturn, 1) := by decide +kernel
theorem kd_M_lineOf_36 : decode kc_M_lineOf 36 = .ok (.iconst 4, 1) := by decide +kernel
theorem kd_M_lineOf_37 : decode kc_M_lineOf 37 = .ok (.iload_n 1, 1) := by decide +kernel
theorem kd_M_lineOf_38 : decode kc_M_lineOf 38 = .ok (.imul, 1) := by decide +kernel
theorem kd_M_lineOf_39 : decode kc_M_lineOf 39 = .ok (.iload_n 2, 1) := by decide +kernel
theorem kd_M_lineOf_40 : decode kc_M_lineOf 40 = .ok (.iadd, 1) := by decide +kernel
theorem kd_M_lineOf_41 : decode kc_M_lineOf 41 = .ok (.istore 4, 2) := by decide +kernel
theorem kd_M_lineOf_43 : decode kc_M_lineOf 43 = .ok (.iload_n 3, 1) := by decide +kernel
theorem kd_M_lineOf_44 : decode kc_M_lineOf 44 = .ok (.ifCond .ne 16, 3) := by decide +kernel
theorem kd_M_lineOf_47 : decode kc_M_lineOf 47 = .ok (.aload_n 0, 1) := by decide +kernel
theorem kd_M_lineOf_48 : decode kc_M_lineOf 48 = .ok (.iload_n 1, 1) := by decide +kernel
theorem kd_M_lineOf_49 : decode kc_M_lineOf 49 = .ok (.invokevirtual 275, 3) := by decide +kernel
theorem kd_M_lineOf_52 : decode kc_M_lineOf 52 = .ok (.aload_n 0, 1) := by decide +kernel
theorem kd_M_lineOf_53 : decode kc_M_lineOf 53 = .ok (.getfield 132, 3) := by decide +kernel
theorem kd_M_lineOf_56 : decode kc_M_lineOf 56 = .ok (.iload 4, 2) := by decide +kernel
theorem kd_M_lineOf_58 : decode kc_M_lineOf 58 = .ok (.laload, 1) := by decide +kernel
theorem kd_M_lineOf_59 : decode kc_M_lineOf 59 = .ok (.lreturn, 1) := by decide +kernel
theorem kd_M_lineOf_60 : decode kc_M_lineOf 60 = .ok (.aload_n 0, 1) := by decide +kernel
theorem kd_M_lineOf_61 : decode kc_M_lineOf 61 = .ok (.getfield 113, 3) := by decide +kernel
theorem kd_M_lineOf_64 : decode kc_M_lineOf 64 = .ok (.iload_n 1, 1) := by decide +kernel
theorem kd_M_lineOf_65 : decode kc_M_lineOf 65 = .ok (.baload, 1) := by decide +kernel
theorem kd_M_lineOf_66 : decode kc_M_lineOf 66 = .ok (.ifCond .eq 27, 3) := by decide +kernel
theorem kd_M_lineOf_69 : decode kc_M_lineOf 69 = .ok (.iload_n 3, 1) := by decide +kernel
theorem kd_M_lineOf_70 : decode kc_M_lineOf 70 = .ok (.iconst 1, 1) := by decide +kernel
theorem kd_M_lineOf_71 : decode kc_M_lineOf 71 = .ok (.if_icmp .ne 14, 3) := by decide +kernel
theorem kd_M_lineOf_74 : decode kc_M_lineOf 74 = .ok (.aload_n 0, 1) := by decide +kernel
theorem kd_M_lineOf_75 : decode kc_M_lineOf 75 = .ok (.getfield 145, 3) := by decide +kernel
theorem kd_M_lineOf_78 : decode kc_M_lineOf 78 = .ok (.iload 4, 2) := by decide +kernel
theorem kd_M_lineOf_80 : decode kc_M_lineOf 80 = .ok (.iaload, 1) := by decide +kernel
theorem kd_M_lineOf_81 : decode kc_M_lineOf 81 = .ok (.i2l, 1) := by decide +kernel
theorem kd_M_lineOf_82 : decode kc_M_lineOf 82 = .ok (.goto 10, 3) := by decide +kernel
theorem kd_M_lineOf_85 : decode kc_M_lineOf 85 = .ok (.aload_n 0, 1) := by decide +kernel
theorem kd_M_lineOf_86 : decode kc_M_lineOf 86 = .ok (.getfield 148, 3) := by decide +kernel
theorem kd_M_lineOf_89 : decode kc_M_lineOf 89 = .ok (.iload 4, 2) := by decide +kernel
theorem kd_M_lineOf_91 : decode kc_M_lineOf 91 = .ok (.laload, 1) := by decide +kernel
theorem kd_M_lineOf_92 : decode kc_M_lineOf 92 = .ok (.lreturn, 1) := by decide +kernel
theorem kd_M_lineOf_93 : decode kc_M_lineOf 93 = .ok (.aload_n 0, 1) := by decide +kernel
theorem kd_M_lineOf_94 : decode kc_M_lineOf 94 = .ok (.aload_n 0, 1) := by decide +kernel
theorem kd_M_lineOf_95 : decode kc_M_lineOf 95 = .ok (.iload_n 1, 1) := by decide +kernel
theorem kd_M_lineOf_96 : decode kc_M_lineOf 96 = .ok (.invokevirtual 293, 3) := by decide +kernel
theorem kd_M_lineOf_99 : decode kc_M_lineOf 99 = .ok (.ifCond .eq 7, 3) := by decide +kernel
theorem kd_M_lineOf_102 : decode kc_M_lineOf 102 = .ok (.iconst 0, 1) := by decide +kernel
theorem kd_M_lineOf_103 : decode kc_M_lineOf 103 = .ok (.goto 4, 3) := by decide +kernel
theorem kd_M_lineOf_106 : decode kc_M_lineOf 106 = .ok (.iconst 2, 1) := by decide +kernel
theorem kd_M_lineOf_107 : decode kc_M_lineOf 107 = .ok (.putfield 190, 3) := by decide +kernel
theorem kd_M_lineOf_110 : decode kc_M_lineOf 110 = .ok (.aload_n 0, 1) := by decide +kernel
theorem kd_M_lineOf_111 : decode kc_M_lineOf 111 = .ok (.getfield 190, 3) := by decide +kernel
theorem kd_M_lineOf_114 : decode kc_M_lineOf 114 = .ok (.ifCond .le 5, 3) := by decide +kernel
theorem kd_M_lineOf_117 : decode kc_M_lineOf 117 = .ok (.lconst 0, 1) := by decide +kernel
theorem kd_M_lineOf_118 : decode kc_M_lineOf 118 = .ok (.lreturn, 1) := by decide +kernel
theorem kd_M_lineOf_119 : decode kc_M_lineOf 119 = .ok (.aload_n 0, 1) := by decide +kernel
theorem kd_M_lineOf_120 : decode kc_M_lineOf 120 = .ok (.iload_n 1, 1) := by decide +kernel
theorem kd_M_lineOf_121 : decode kc_M_lineOf 121 = .ok (.invokevirtual 296, 3) := by decide +kernel
theorem kd_M_lineOf_124 : decode kc_M_lineOf 124 = .ok (.pop2, 1) := by decide +kernel
theorem kd_M_lineOf_125 : decode kc_M_lineOf 125 = .ok (.iload_n 3, 1) := by decide +kernel
theorem kd_M_lineOf_126 : decode kc_M_lineOf 126 = .ok (.iconst 1, 1) := by decide +kernel
theorem kd_M_lineOf_127 : decode kc_M_lineOf 127 = .ok (.if_icmp .ne 13, 3) := by decide +kernel
theorem kd_M_lineOf_130 : decode kc_M_lineOf 130 = .ok (.aload_n 0, 1) := by decide +kernel
theorem kd_M_lineOf_131 : decode kc_M_lineOf 131 = .ok (.getfield 157, 3) := by decide +kernel
theorem kd_M_lineOf_134 : decode kc_M_lineOf 134 = .ok (.iload_n 2, 1) := by decide +kernel
theorem kd_M_lineOf_135 : decode kc_M_lineOf 135 = .ok (.iaload, 1) := by decide +kernel
theorem kd_M_lineOf_136 : decode kc_M_lineOf 136 = .ok (.i2l, 1) := by decide +kernel
theorem kd_M_lineOf_137 : decode kc_M_lineOf 137 = .ok (.goto 9, 3) := by decide +kernel
theorem kd_M_lineOf_140 : decode kc_M_lineOf 140 = .ok (.aload_n 0, 1) := by decide +kernel
theorem kd_M_lineOf_141 : decode kc_M_lineOf 141 = .ok (.getfield 160, 3) := by decide +kernel
theorem kd_M_lineOf_144 : decode kc_M_lineOf 144 = .ok (.iload_n 2, 1) := by decide +kernel
theorem kd_M_lineOf_145 : decode kc_M_lineOf 145 = .ok (.laload, 1) := by decide +kernel
theorem kd_M_lineOf_146 : decode kc_M_lineOf 146 = .ok (.lreturn, 1) := by decide +kernel
theorem kd_M_accept_0 : decode kc_M_accept 0 = .ok (.aload_n 0, 1) := by decide +kernel
theorem kd_M_accept_1 : decode kc_M_accept 1 = .ok (.aload_n 0, 1) := by decide +kernel
theorem kd_M_accept_2 : decode kc_M_accept 2 = .ok (.iload_n 1, 1) := by decide +kernel
theorem kd_M_accept_3 : decode kc_M_accept 3 = .ok (.invokevirtual 254, 3) := by decide +kernel
theorem kd_M_accept_6 : decode kc_M_accept 6 = .ok (.ifCond .ne 7, 3) := by decide +kernel
theorem kd_M_accept_9 : decode kc_M_accept 9 = .ok (.iconst 1, 1) := by decide +kernel
theorem kd_M_accept_10 : decode kc_M_accept 10 = .ok (.goto 57, 3) := by decide +kernel
theorem kd_M_accept_13 : decode kc_M_accept 13 = .ok (.aload_n 0, 1) := by decide +kernel
theorem kd_M_accept_14 : decode kc_M_accept 14 = .ok (.getfield 113, 3) := by decide +kernel
theorem kd_M_accept_17 : decode kc_M_accept 17 = .ok (.iload_n 1, 1) := by decide +kernel
theorem kd_M_accept_18 : decode kc_M_accept 18 = .ok (.baload, 1) := by decide +kernel
theorem kd_M_accept_19 : decode kc_M_accept 19 = .ok (.ifCond .ne 11, 3) := by decide +kernel
theorem kd_M_accept_22 : decode kc_M_accept 22 = .ok (.aload_n 0, 1) := by decide +kernel
theorem kd_M_accept_23 : decode kc_M_accept 23 = .ok (.iload_n 1, 1) := by decide +kernel
theorem kd_M_accept_24 : decode kc_M_accept 24 = .ok (.invokevirtual 302, 3) := by decide +kernel
theorem kd_M_accept_27 : decode kc_M_accept 27 = .ok (.ifCond .eq 7, 3) := by decide +kernel
theorem kd_M_accept_30 : decode kc_M_accept 30 = .ok (.iconst 2, 1) := by decide +kernel
theorem kd_M_accept_31 : decode kc_M_accept 31 = .ok (.goto 36, 3) := by decide +kernel
theorem kd_M_accept_34 : decode kc_M_accept 34 = .ok (.aload_n 0, 1) := by decide +kernel
theorem kd_M_accept_35 : decode kc_M_accept 35 = .ok (.iload_n 1, 1) := by decide +kernel
theorem kd_M_accept_36 : decode kc_M_accept 36 = .ok (.invokevirtual 293, 3) := by decide +kernel
theorem kd_M_accept_39 : decode kc_M_accept 39 = .ok (.ifCond .ne 7, 3) := by decide +kernel
theorem kd_M_accept_42 : decode kc_M_accept 42 = .ok (.iconst 3, 1) := by decide +kernel
theorem kd_M_accept_43 : decode kc_M_accept 43 = .ok (.goto 24, 3) := by decide +kernel
theorem kd_M_accept_46 : decode kc_M_accept 46 = .ok (.aload_n 0, 1) := by decide +kernel
theorem kd_M_accept_47 : decode kc_M_accept 47 = .ok (.getfield 299, 3) := by decide +kernel
theorem kd_M_accept_50 : decode kc_M_accept 50 = .ok (.aload_n 0, 1) := by decide +kernel
theorem kd_M_accept_51 : decode kc_M_accept 51 = .ok (.getfield 107, 3) := by decide +kernel
theorem kd_M_accept_54 : decode kc_M_accept 54 = .ok (.iload_n 1, 1) := by decide +kernel
theorem kd_M_accept_55 : decode kc_M_accept 55 = .ok (.iaload, 1) := by decide +kernel
theorem kd_M_accept_56 : decode kc_M_accept 56 = .ok (.iadd, 1) := by decide +kernel
theorem kd_M_accept_57 : decode kc_M_accept 57 = .ok (.bipush 40, 2) := by decide +kernel
theorem kd_M_accept_59 : decode kc_M_accept 59 = .ok (.if_icmp .le 7, 3) := by decide +kernel
theorem kd_M_accept_62 : decode kc_M_accept 62 = .ok (.iconst 4, 1) := by decide +kernel
theorem kd_M_accept_63 : decode kc_M_accept 63 = .ok (.goto 4, 3) := by decide +kernel
theorem kd_M_accept_66 : decode kc_M_accept 66 = .ok (.iconst 0, 1) := by decide +kernel
theorem kd_M_accept_67 : decode kc_M_accept 67 = .ok (.putfield 190, 3) := by decide +kernel
theorem kd_M_accept_70 : decode kc_M_accept 70 = .ok (.aload_n 0, 1) := by decide +kernel
theorem kd_M_accept_71 : decode kc_M_accept 71 = .ok (.getfield 190, 3) := by decide +kernel
theorem kd_M_accept_74 : decode kc_M_accept 74 = .ok (.ifCond .le 5, 3) := by decide +kernel
theorem kd_M_accept_77 : decode kc_M_accept 77 = .ok (.lconst 0, 1) := by decide +kernel
theorem kd_M_accept_78 : decode kc_M_accept 78 = .ok (.lreturn, 1) := by decide +kernel
theorem kd_M_accept_79 : decode kc_M_accept 79 = .ok (.aload_n 0, 1) := by decide +kernel
theorem kd_M_accept_80 : decode kc_M_accept 80 = .ok (.iload_n 1, 1) := by decide +kernel
theorem kd_M_accept_81 : decode kc_M_accept 81 = .ok (.invokevirtual 296, 3) := by decide +kernel
theorem kd_M_accept_84 : decode kc_M_accept 84 = .ok (.lstore_n 2, 1) := by decide +kernel
theorem kd_M_accept_85 : decode kc_M_accept 85 = .ok (.aload_n 0, 1) := by decide +kernel
theorem kd_M_accept_86 : decode kc_M_accept 86 = .ok (.iload_n 1, 1) := by decide +kernel
theorem kd_M_accept_87 : decode kc_M_accept 87 = .ok (.invokevirtual 305, 3) := by decide +kernel
theorem kd_M_accept_90 : decode kc_M_accept 90 = .ok (.iconst 4, 1) := by decide +kernel
theorem kd_M_accept_91 : decode kc_M_accept 91 = .ok (.iload_n 1, 1) := by decide +kernel
theorem kd_M_accept_92 : decode kc_M_accept 92 = .ok (.imul, 1) := by decide +kernel
theorem kd_M_accept_93 : decode kc_M_accept 93 = .ok (.istore 4, 2) := by decide +kernel
theorem kd_M_accept_95 : decode kc_M_accept 95 = .ok (.iload 4, 2) := by decide +kernel
theorem kd_M_accept_97 : decode kc_M_accept 97 = .ok (.iconst 4, 1) := by decide +kernel
theorem kd_M_accept_98 : decode kc_M_accept 98 = .ok (.iload_n 1, 1) := by decide +kernel
theorem kd_M_accept_99 : decode kc_M_accept 99 = .ok (.imul, 1) := by decide +kernel
theorem kd_M_accept_100 : decode kc_M_accept 100 = .ok (.aload_n 0, 1) := by decide +kernel
theorem kd_M_accept_101 : decode kc_M_accept 101 = .ok (.getfield 107, 3) := by decide +kernel
theorem kd_M_accept_104 : decode kc_M_accept 104 = .ok (.iload_n 1, 1) := by decide +kernel
theorem kd_M_accept_105 : decode kc_M_accept 105 = .ok (.iaload, 1) := by decide +kernel
theorem kd_M_accept_106 : decode kc_M_accept 106 = .ok (.iadd, 1) := by decide +kernel
theorem kd_M_accept_107 : decode kc_M_accept 107 = .ok (.if_icmp .ge 84, 3) := by decide +kernel
theorem kd_M_accept_110 : decode kc_M_accept 110 = .ok (.aload_n 0, 1) := by decide +kernel
theorem kd_M_accept_111 : decode kc_M_accept 111 = .ok (.getfield 139, 3) := by decide +kernel
theorem kd_M_accept_114 : decode kc_M_accept 114 = .ok (.iload 4, 2) := by decide +kernel
theorem kd_M_accept_116 : decode kc_M_accept 116 = .ok (.aload_n 0, 1) := by decide +kernel
theorem kd_M_accept_117 : decode kc_M_accept 117 = .ok (.aload_n 0, 1) := by decide +kernel
theorem kd_M_accept_118 : decode kc_M_accept 118 = .ok (.getfield 120, 3) := by decide +kernel
theorem kd_M_accept_121 : decode kc_M_accept 121 = .ok (.iload 4, 2) := by decide +kernel
theorem kd_M_accept_123 : decode kc_M_accept 123 = .ok (.iaload, 1) := by decide +kernel
theorem kd_M_accept_124 : decode kc_M_accept 124 = .ok (.aload_n 0, 1) := by decide +kernel
theorem kd_M_accept_125 : decode kc_M_accept 125 = .ok (.getfield 129, 3) := by decide +kernel
theorem kd_M_accept_128 : decode kc_M_accept 128 = .ok (.iconst 3, 1) := by decide +kernel
theorem kd_M_accept_129 : decode kc_M_accept 129 = .ok (.iload 4, 2) := by decide +kernel
theorem kd_M_accept_131 : decode kc_M_accept 131 = .ok (.imul, 1) := by decide +kernel
theorem kd_M_accept_132 : decode kc_M_accept 132 = .ok (.iaload, 1) := by decide +kernel
theorem kd_M_accept_133 : decode kc_M_accept 133 = .ok (.aload_n 0, 1) := by decide +kernel
theorem kd_M_accept_134 : decode kc_M_accept 134 = .ok (.getfield 148, 3) := by decide +kernel
theorem kd_M_accept_137 : decode kc_M_accept 137 = .ok (.iload 4, 2) := by decide +kernel
theorem kd_M_accept_139 : decode kc_M_accept 139 = .ok (.laload, 1) := by decide +kernel
theorem kd_M_accept_140 : decode kc_M_accept 140 = .ok (.aload_n 0, 1) := by decide +kernel
theorem kd_M_accept_141 : decode kc_M_accept 141 = .ok (.getfield 126, 3) := by decide +kernel
theorem kd_M_accept_144 : decode kc_M_accept 144 = .ok (.iload 4, 2) := by decide +kernel
theorem kd_M_accept_146 : decode kc_M_accept 146 = .ok (.baload, 1) := by decide +kernel
theorem kd_M_accept_147 : decode kc_M_accept 147 = .ok (.iconst 0, 1) := by decide +kernel
theorem kd_M_accept_148 : decode kc_M_accept 148 = .ok (.invokevirtual 308, 3) := by decide +kernel
theorem kd_M_accept_151 : decode kc_M_accept 151 = .ok (.iastore, 1) := by decide +kernel
theorem kd_M_accept_152 : decode kc_M_accept 152 = .ok (.aload_n 0, 1) := by decide +kernel
theorem kd_M_accept_153 : decode kc_M_accept 153 = .ok (.aload_n 0, 1) := by decide +kernel
theorem kd_M_accept_154 : decode kc_M_accept 154 = .ok (.getfield 126, 3) := by decide +kernel
theorem kd_M_accept_157 : decode kc_M_accept 157 = .ok (.iload 4, 2) := by decide +kernel
theorem kd_M_accept_159 : decode kc_M_accept 159 = .ok (.baload, 1) := by decide +kernel
theorem kd_M_accept_160 : decode kc_M_accept 160 = .ok (.ifCond .eq 10, 3) := by decide +kernel
theorem kd_M_accept_163 : decode kc_M_accept 163 = .ok (.aload_n 0, 1) := by decide +kernel
theorem kd_M_accept_164 : decode kc_M_accept 164 = .ok (.getfield 312, 3) := by decide +kernel
theorem kd_M_accept_167 : decode kc_M_accept 167 = .ok (.goto 15, 3) := by decide +kernel
theorem kd_M_accept_170 : decode kc_M_accept 170 = .ok (.aload_n 0, 1) := by decide +kernel
theorem kd_M_accept_171 : decode kc_M_accept 171 = .ok (.getfield 312, 3) := by decide +kernel
theorem kd_M_accept_174 : decode kc_M_accept 174 = .ok (.aload_n 0, 1) := by decide +kernel
theorem kd_M_accept_175 : decode kc_M_accept 175 = .ok (.getfield 148, 3) := by decide +kernel
theorem kd_M_accept_178 : decode kc_M_accept 178 = .ok (.iload 4, 2) := by decide +kernel
theorem kd_M_accept_180 : decode kc_M_accept 180 = .ok (.laload, 1) := by decide +kernel
theorem kd_M_accept_181 : decode kc_M_accept 181 = .ok (.ladd, 1) := by decide +kernel
theorem kd_M_accept_182 : decode kc_M_accept 182 = .ok (.putfield 312, 3) := by decide +kernel
