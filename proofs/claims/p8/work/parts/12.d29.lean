theorem kd_M_line_1 : decode kc_M_line 1 = .ok (.iload_n 1, 1) := by decide +kernel
theorem kd_M_line_2 : decode kc_M_line 2 = .ok (.invokevirtual 254, 3) := by decide +kernel
theorem kd_M_line_5 : decode kc_M_line 5 = .ok (.ifCond .eq 54, 3) := by decide +kernel
theorem kd_M_line_8 : decode kc_M_line 8 = .ok (.iload_n 2, 1) := by decide +kernel
theorem kd_M_line_9 : decode kc_M_line 9 = .ok (.iconst 0, 1) := by decide +kernel
theorem kd_M_line_10 : decode kc_M_line 10 = .ok (.bipush 15, 2) := by decide +kernel
theorem kd_M_line_12 : decode kc_M_line 12 = .ok (.invokestatic 204, 3) := by decide +kernel
theorem kd_M_line_15 : decode kc_M_line 15 = .ok (.ifCond .eq 44, 3) := by decide +kernel
theorem kd_M_line_18 : decode kc_M_line 18 = .ok (.iload_n 3, 1) := by decide +kernel
theorem kd_M_line_19 : decode kc_M_line 19 = .ok (.iconst 0, 1) := by decide +kernel
theorem kd_M_line_20 : decode kc_M_line 20 = .ok (.bipush 7, 2) := by decide +kernel
theorem kd_M_line_22 : decode kc_M_line 22 = .ok (.invokestatic 204, 3) := by decide +kernel
theorem kd_M_line_25 : decode kc_M_line 25 = .ok (.ifCond .eq 34, 3) := by decide +kernel
theorem kd_M_line_28 : decode kc_M_line 28 = .ok (.iconst 0, 1) := by decide +kernel
theorem kd_M_line_29 : decode kc_M_line 29 = .ok (.iload 4, 2) := by decide +kernel
theorem kd_M_line_31 : decode kc_M_line 31 = .ok (.invokestatic 258, 3) := by decide +kernel
theorem kd_M_line_34 : decode kc_M_line 34 = .ok (.ifCond .eq 25, 3) := by decide +kernel
theorem kd_M_line_37 : decode kc_M_line 37 = .ok (.iconst 1, 1) := by decide +kernel
theorem kd_M_line_38 : decode kc_M_line 38 = .ok (.iload 5, 2) := by decide +kernel
theorem kd_M_line_40 : decode kc_M_line 40 = .ok (.invokestatic 258, 3) := by decide +kernel
theorem kd_M_line_43 : decode kc_M_line 43 = .ok (.ifCond .eq 16, 3) := by decide +kernel
theorem kd_M_line_46 : decode kc_M_line 46 = .ok (.iconst 2, 1) := by decide +kernel
theorem kd_M_line_47 : decode kc_M_line 47 = .ok (.iload 6, 2) := by decide +kernel
theorem kd_M_line_49 : decode kc_M_line 49 = .ok (.invokestatic 258, 3) := by decide +kernel
theorem kd_M_line_52 : decode kc_M_line 52 = .ok (.ifCond .eq 7, 3) := by decide +kernel
theorem kd_M_line_55 : decode kc_M_line 55 = .ok (.iconst 1, 1) := by decide +kernel
theorem kd_M_line_56 : decode kc_M_line 56 = .ok (.goto 4, 3) := by decide +kernel
theorem kd_M_line_59 : decode kc_M_line 59 = .ok (.iconst 0, 1) := by decide +kernel
theorem kd_M_line_60 : decode kc_M_line 60 = .ok (.istore 8, 2) := by decide +kernel
theorem kd_M_line_62 : decode kc_M_line 62 = .ok (.aload_n 0, 1) := by decide +kernel
theorem kd_M_line_63 : decode kc_M_line 63 = .ok (.iload 8, 2) := by decide +kernel
theorem kd_M_line_65 : decode kc_M_line 65 = .ok (.ifCond .ne 7, 3) := by decide +kernel
theorem kd_M_line_68 : decode kc_M_line 68 = .ok (.iconst 1, 1) := by decide +kernel
theorem kd_M_line_69 : decode kc_M_line 69 = .ok (.goto 27, 3) := by decide +kernel
theorem kd_M_line_72 : decode kc_M_line 72 = .ok (.aload_n 0, 1) := by decide +kernel
theorem kd_M_line_73 : decode kc_M_line 73 = .ok (.getfield 113, 3) := by decide +kernel
theorem kd_M_line_76 : decode kc_M_line 76 = .ok (.iload_n 1, 1) := by decide +kernel
theorem kd_M_line_77 : decode kc_M_line 77 = .ok (.baload, 1) := by decide +kernel
theorem kd_M_line_78 : decode kc_M_line 78 = .ok (.ifCond .ne 13, 3) := by decide +kernel
theorem kd_M_line_81 : decode kc_M_line 81 = .ok (.aload_n 0, 1) := by decide +kernel
theorem kd_M_line_82 : decode kc_M_line 82 = .ok (.getfield 107, 3) := by decide +kernel
theorem kd_M_line_85 : decode kc_M_line 85 = .ok (.iload_n 1, 1) := by decide +kernel
theorem kd_M_line_86 : decode kc_M_line 86 = .ok (.iaload, 1) := by decide +kernel
theorem kd_M_line_87 : decode kc_M_line 87 = .ok (.iconst 4, 1) := by decide +kernel
theorem kd_M_line_88 : decode kc_M_line 88 = .ok (.if_icmp .ne 7, 3) := by decide +kernel
theorem kd_M_line_91 : decode kc_M_line 91 = .ok (.iconst 2, 1) := by decide +kernel
theorem kd_M_line_92 : decode kc_M_line 92 = .ok (.goto 4, 3) := by decide +kernel
theorem kd_M_line_95 : decode kc_M_line 95 = .ok (.iconst 0, 1) := by decide +kernel
theorem kd_M_line_96 : decode kc_M_line 96 = .ok (.putfield 190, 3) := by decide +kernel
theorem kd_M_line_99 : decode kc_M_line 99 = .ok (.aload_n 0, 1) := by decide +kernel
theorem kd_M_line_100 : decode kc_M_line 100 = .ok (.getfield 190, 3) := by decide +kernel
theorem kd_M_line_103 : decode kc_M_line 103 = .ok (.ifCond .le 5, 3) := by decide +kernel
theorem kd_M_line_106 : decode kc_M_line 106 = .ok (.iconst 0, 1) := by decide +kernel
theorem kd_M_line_107 : decode kc_M_line 107 = .ok (.ireturn, 1) := by decide +kernel
theorem kd_M_line_108 : decode kc_M_line 108 = .ok (.iconst 4, 1) := by decide +kernel
theorem kd_M_line_109 : decode kc_M_line 109 = .ok (.iload_n 1, 1) := by decide +kernel
theorem kd_M_line_110 : decode kc_M_line 110 = .ok (.imul, 1) := by decide +kernel
theorem kd_M_line_111 : decode kc_M_line 111 = .ok (.aload_n 0, 1) := by decide +kernel
theorem kd_M_line_112 : decode kc_M_line 112 = .ok (.getfield 107, 3) := by decide +kernel
theorem kd_M_line_115 : decode kc_M_line 115 = .ok (.iload_n 1, 1) := by decide +kernel
theorem kd_M_line_116 : decode kc_M_line 116 = .ok (.iaload, 1) := by decide +kernel
theorem kd_M_line_117 : decode kc_M_line 117 = .ok (.iadd, 1) := by decide +kernel
theorem kd_M_line_118 : decode kc_M_line 118 = .ok (.istore 9, 2) := by decide +kernel
theorem kd_M_line_120 : decode kc_M_line 120 = .ok (.aload_n 0, 1) := by decide +kernel
theorem kd_M_line_121 : decode kc_M_line 121 = .ok (.getfield 120, 3) := by decide +kernel
theorem kd_M_line_124 : decode kc_M_line 124 = .ok (.iload 9, 2) := by decide +kernel
theorem kd_M_line_126 : decode kc_M_line 126 = .ok (.iload_n 2, 1) := by decide +kernel
theorem kd_M_line_127 : decode kc_M_line 127 = .ok (.iastore, 1) := by decide +kernel
theorem kd_M_line_128 : decode kc_M_line 128 = .ok (.aload_n 0, 1) := by decide +kernel
theorem kd_M_line_129 : decode kc_M_line 129 = .ok (.getfield 123, 3) := by decide +kernel
theorem kd_M_line_132 : decode kc_M_line 132 = .ok (.iload 9, 2) := by decide +kernel
theorem kd_M_line_134 : decode kc_M_line 134 = .ok (.iload_n 3, 1) := by decide +kernel
theorem kd_M_line_135 : decode kc_M_line 135 = .ok (.iastore, 1) := by decide +kernel
theorem kd_M_line_136 : decode kc_M_line 136 = .ok (.aload_n 0, 1) := by decide +kernel
theorem kd_M_line_137 : decode kc_M_line 137 = .ok (.getfield 126, 3) := by decide +kernel
theorem kd_M_line_140 : decode kc_M_line 140 = .ok (.iload 9, 2) := by decide +kernel
theorem kd_M_line_142 : decode kc_M_line 142 = .ok (.iload 7, 2) := by decide +kernel
theorem kd_M_line_144 : decode kc_M_line 144 = .ok (.bastore, 1) := by decide +kernel
theorem kd_M_line_145 : decode kc_M_line 145 = .ok (.aload_n 0, 1) := by decide +kernel
theorem kd_M_line_146 : decode kc_M_line 146 = .ok (.getfield 129, 3) := by decide +kernel
theorem kd_M_line_149 : decode kc_M_line 149 = .ok (.iconst 3, 1) := by decide +kernel
theorem kd_M_line_150 : decode kc_M_line 150 = .ok (.iload 9, 2) := by decide +kernel
theorem kd_M_line_152 : decode kc_M_line 152 = .ok (.imul, 1) := by decide +kernel
theorem kd_M_line_153 : decode kc_M_line 153 = .ok (.iload 4, 2) := by decide +kernel
theorem kd_M_line_155 : decode kc_M_line 155 = .ok (.iastore, 1) := by decide +kernel
theorem kd_M_line_156 : decode kc_M_line 156 = .ok (.aload_n 0, 1) := by decide +kernel
theorem kd_M_line_157 : decode kc_M_line 157 = .ok (.getfield 129, 3) := by decide +kernel
theorem kd_M_line_160 : decode kc_M_line 160 = .ok (.iconst 3, 1) := by decide +kernel
theorem kd_M_line_161 : decode kc_M_line 161 = .ok (.iload 9, 2) := by decide +kernel
theorem kd_M_line_163 : decode kc_M_line 163 = .ok (.imul, 1) := by decide +kernel
theorem kd_M_line_164 : decode kc_M_line 164 = .ok (.iconst 1, 1) := by decide +kernel
theorem kd_M_line_165 : decode kc_M_line 165 = .ok (.iadd, 1) := by decide +kernel
theorem kd_M_line_166 : decode kc_M_line 166 = .ok (.iload 5, 2) := by decide +kernel
theorem kd_M_line_168 : decode kc_M_line 168 = .ok (.iastore, 1) := by decide +kernel
theorem kd_M_line_169 : decode kc_M_line 169 = .ok (.aload_n 0, 1) := by decide +kernel
theorem kd_M_line_170 : decode kc_M_line 170 = .ok (.getfield 129, 3) := by decide +kernel
theorem kd_M_line_173 : decode kc_M_line 173 = .ok (.iconst 3, 1) := by decide +kernel
theorem kd_M_line_174 : decode kc_M_line 174 = .ok (.iload 9, 2) := by decide +kernel
theorem kd_M_line_176 : decode kc_M_line 176 = .ok (.imul, 1) := by decide +kernel
theorem kd_M_line_177 : decode kc_M_line 177 = .ok (.iconst 2, 1) := by decide +kernel
theorem kd_M_line_178 : decode kc_M_line 178 = .ok (.iadd, 1) := by decide +kernel
theorem kd_M_line_179 : decode kc_M_line 179 = .ok (.iload 6, 2) := by decide +kernel
theorem kd_M_line_181 : decode kc_M_line 181 = .ok (.iastore, 1) := by decide +kernel
theorem kd_M_line_182 : decode kc_M_line 182 = .ok (.aload_n 0, 1) := by decide +kernel
theorem kd_M_line_183 : decode kc_M_line 183 = .ok (.getfield 107, 3) := by decide +kernel
theorem kd_M_line_186 : decode kc_M_line 186 = .ok (.iload_n 1, 1) := by decide +kernel
theorem kd_M_line_187 : decode kc_M_line 187 = .ok (.dup2, 1) := by decide +kernel
theorem kd_M_line_188 : decode kc_M_line 188 = .ok (.iaload, 1) := by decide +kernel
theorem kd_M_line_189 : decode kc_M_line 189 = .ok (.iconst 1, 1) := by decide +kernel
theorem kd_M_line_190 : decode kc_M_line 190 = .ok (.iadd, 1) := by decide +kernel
theorem kd_M_line_191 : decode kc_M_line 191 = .ok (.iastore, 1) := by decide +kernel
theorem kd_M_line_192 : decode kc_M_line 192 = .ok (.aload_n 0, 1) := by decide +kernel
theorem kd_M_line_193 : decode kc_M_line 193 = .ok (.getfield 107, 3) := by decide +kernel
theorem kd_M_line_196 : decode kc_M_line 196 = .ok (.iload_n 1, 1) := by decide +kernel
theorem kd_M_line_197 : decode kc_M_line 197 = .ok (.iaload, 1) := by decide +kernel
theorem kd_M_line_198 : decode kc_M_line 198 = .ok (.iconst 1, 1) := by decide +kernel
theorem kd_M_line_199 : decode kc_M_line 199 = .ok (.isub, 1) := by decide +kernel
theorem kd_M_line_200 : decode kc_M_line 200 = .ok (.ireturn, 1) := by decide +kernel
theorem kd_M_charge_0 : decode kc_M_charge 0 = .ok (.aload_n 0, 1) := by decide +kernel
theorem kd_M_charge_1 : decode kc_M_charge 1 = .ok (.aload_n 0, 1) := by decide +kernel
theorem kd_M_charge_2 : decode kc_M_charge 2 = .ok (.iload_n 1, 1) := by decide +kernel
theorem kd_M_charge_3 : decode kc_M_charge 3 = .ok (.invokevirtual 254, 3) := by decide +kernel
theorem kd_M_charge_6 : decode kc_M_charge 6 = .ok (.ifCond .eq 23, 3) := by decide +kernel
theorem kd_M_charge_9 : decode kc_M_charge 9 = .ok (.iload_n 2, 1) := by decide +kernel
theorem kd_M_charge_10 : decode kc_M_charge 10 = .ok (.iconst 0, 1) := by decide +kernel
theorem kd_M_charge_11 : decode kc_M_charge 11 = .ok (.iconst 1, 1) := by decide +kernel
theorem kd_M_charge_12 : decode kc_M_charge 12 = .ok (.invokestatic 204, 3) := by decide +kernel
theorem kd_M_charge_15 : decode kc_M_charge 15 = .ok (.ifCond .eq 14, 3) := by decide +kernel
theorem kd_M_charge_18 : decode kc_M_charge 18 = .ok (.iload_n 3, 1) := by decide +kernel
theorem kd_M_charge_19 : decode kc_M_charge 19 = .ok (.iconst 0, 1) := by decide +kernel
theorem kd_M_charge_20 : decode kc_M_charge 20 = .ok (.ldc_w 261, 3) := by decide +kernel
theorem kd_M_charge_23 : decode kc_M_charge 23 = .ok (.invokestatic 204, 3) := by decide +kernel
theorem kd_M_charge_26 : decode kc_M_charge 26 = .ok (.ifCond .ne 7, 3) := by decide +kernel
theorem kd_M_charge_29 : decode kc_M_charge 29 = .ok (.iconst 1, 1) := by decide +kernel
theorem kd_M_charge_30 : decode kc_M_charge 30 = .ok (.goto 17, 3) := by decide +kernel
theorem kd_M_charge_33 : decode kc_M_charge 33 = .ok (.aload_n 0, 1) := by decide +kernel
theorem kd_M_charge_34 : decode kc_M_charge 34 = .ok (.getfield 113, 3) := by decide +kernel
theorem kd_M_charge_37 : decode kc_M_charge 37 = .ok (.iload_n 1, 1) := by decide +kernel
theorem kd_M_charge_38 : decode kc_M_charge 38 = .ok (.baload, 1) := by decide +kernel
theorem kd_M_charge_39 : decode kc_M_charge 39 = .ok (.ifCond .eq 7, 3) := by decide +kernel
theorem kd_M_charge_42 : decode kc_M_charge 42 = .ok (.iconst 2, 1) := by decide +kernel
theorem kd_M_charge_43 : decode kc_M_charge 43 = .ok (.goto 4, 3) := by decide +kernel
theorem kd_M_charge_46 : decode kc_M_charge 46 = .ok (.iconst 0, 1) := by decide +kernel
theorem kd_M_charge_47 : decode kc_M_charge 47 = .ok (.putfield 190, 3) := by decide +kernel
theorem kd_M_charge_50 : decode kc_M_charge 50 = .ok (.aload_n 0, 1) := by decide +kernel
theorem kd_M_charge_51 : decode kc_M_charge 51 = .ok (.getfield 190, 3) := by decide +kernel
theorem kd_M_charge_54 : decode kc_M_charge 54 = .ok (.ifCond .ne 14, 3) := by decide +kernel
theorem kd_M_charge_57 : decode kc_M_charge 57 = .ok (.aload_n 0, 1) := by decide +kernel
theorem kd_M_charge_58 : decode kc_M_charge 58 = .ok (.getfield 110, 3) := by decide +kernel
theorem kd_M_charge_61 : decode kc_M_charge 61 = .ok (.iconst 2, 1) := by decide +kernel
theorem kd_M_charge_62 : decode kc_M_charge 62 = .ok (.iload_n 1, 1) := by decide +kernel
theorem kd_M_charge_63 : decode kc_M_charge 63 = .ok (.imul, 1) := by decide +kernel
theorem kd_M_charge_64 : decode kc_M_charge 64 = .ok (.iload_n 2, 1) := by decide +kernel
theorem kd_M_charge_65 : decode kc_M_charge 65 = .ok (.iadd, 1) := by decide +kernel
theorem kd_M_charge_66 : decode kc_M_charge 66 = .ok (.iload_n 3, 1) := by decide +kernel
theorem kd_M_charge_67 : decode kc_M_charge 67 = .ok (.iastore, 1) := by decide +kernel
theorem kd_M_charge_68 : decode kc_M_charge 68 = .ok (.return_, 1) := by decide +kernel
