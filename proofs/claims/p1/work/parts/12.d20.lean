theorem kd_M_madeIn_116 : decode kc_M_madeIn 116 = .ok (.aload_n 0, 1) := by decide +kernel
theorem kd_M_madeIn_117 : decode kc_M_madeIn 117 = .ok (.getfield 76, 3) := by decide +kernel
theorem kd_M_madeIn_120 : decode kc_M_madeIn 120 = .ok (.iload 4, 2) := by decide +kernel
theorem kd_M_madeIn_122 : decode kc_M_madeIn 122 = .ok (.iaload, 1) := by decide +kernel
theorem kd_M_madeIn_123 : decode kc_M_madeIn 123 = .ok (.iadd, 1) := by decide +kernel
theorem kd_M_madeIn_124 : decode kc_M_madeIn 124 = .ok (.if_icmp .ge 36, 3) := by decide +kernel
theorem kd_M_madeIn_127 : decode kc_M_madeIn 127 = .ok (.iload 5, 2) := by decide +kernel
theorem kd_M_madeIn_129 : decode kc_M_madeIn 129 = .ok (.ifCond .eq 22, 3) := by decide +kernel
theorem kd_M_madeIn_132 : decode kc_M_madeIn 132 = .ok (.aload_n 0, 1) := by decide +kernel
theorem kd_M_madeIn_133 : decode kc_M_madeIn 133 = .ok (.getfield 94, 3) := by decide +kernel
theorem kd_M_madeIn_136 : decode kc_M_madeIn 136 = .ok (.aload_n 0, 1) := by decide +kernel
theorem kd_M_madeIn_137 : decode kc_M_madeIn 137 = .ok (.getfield 79, 3) := by decide +kernel
theorem kd_M_madeIn_140 : decode kc_M_madeIn 140 = .ok (.iload 6, 2) := by decide +kernel
theorem kd_M_madeIn_142 : decode kc_M_madeIn 142 = .ok (.iaload, 1) := by decide +kernel
theorem kd_M_madeIn_143 : decode kc_M_madeIn 143 = .ok (.baload, 1) := by decide +kernel
theorem kd_M_madeIn_144 : decode kc_M_madeIn 144 = .ok (.ifCond .eq 7, 3) := by decide +kernel
theorem kd_M_madeIn_147 : decode kc_M_madeIn 147 = .ok (.iconst 1, 1) := by decide +kernel
theorem kd_M_madeIn_148 : decode kc_M_madeIn 148 = .ok (.goto 4, 3) := by decide +kernel
theorem kd_M_madeIn_151 : decode kc_M_madeIn 151 = .ok (.iconst 0, 1) := by decide +kernel
theorem kd_M_madeIn_152 : decode kc_M_madeIn 152 = .ok (.istore 5, 2) := by decide +kernel
theorem kd_M_madeIn_154 : decode kc_M_madeIn 154 = .ok (.iinc 6 1, 3) := by decide +kernel
theorem kd_M_madeIn_157 : decode kc_M_madeIn 157 = .ok (.goto (-47), 3) := by decide +kernel
theorem kd_M_madeIn_160 : decode kc_M_madeIn 160 = .ok (.iload 5, 2) := by decide +kernel
theorem kd_M_madeIn_162 : decode kc_M_madeIn 162 = .ok (.ifCond .eq 30, 3) := by decide +kernel
theorem kd_M_madeIn_165 : decode kc_M_madeIn 165 = .ok (.aload_n 0, 1) := by decide +kernel
theorem kd_M_madeIn_166 : decode kc_M_madeIn 166 = .ok (.getfield 98, 3) := by decide +kernel
theorem kd_M_madeIn_169 : decode kc_M_madeIn 169 = .ok (.iload 4, 2) := by decide +kernel
theorem kd_M_madeIn_171 : decode kc_M_madeIn 171 = .ok (.aload_n 0, 1) := by decide +kernel
theorem kd_M_madeIn_172 : decode kc_M_madeIn 172 = .ok (.iload 4, 2) := by decide +kernel
theorem kd_M_madeIn_174 : decode kc_M_madeIn 174 = .ok (.aload_n 0, 1) := by decide +kernel
theorem kd_M_madeIn_175 : decode kc_M_madeIn 175 = .ok (.getfield 88, 3) := by decide +kernel
theorem kd_M_madeIn_178 : decode kc_M_madeIn 178 = .ok (.iload_n 2, 1) := by decide +kernel
theorem kd_M_madeIn_179 : decode kc_M_madeIn 179 = .ok (.iaload, 1) := by decide +kernel
theorem kd_M_madeIn_180 : decode kc_M_madeIn 180 = .ok (.invokevirtual 248, 3) := by decide +kernel
theorem kd_M_madeIn_183 : decode kc_M_madeIn 183 = .ok (.bastore, 1) := by decide +kernel
theorem kd_M_madeIn_184 : decode kc_M_madeIn 184 = .ok (.aload_n 0, 1) := by decide +kernel
theorem kd_M_madeIn_185 : decode kc_M_madeIn 185 = .ok (.getfield 94, 3) := by decide +kernel
theorem kd_M_madeIn_188 : decode kc_M_madeIn 188 = .ok (.iload 4, 2) := by decide +kernel
theorem kd_M_madeIn_190 : decode kc_M_madeIn 190 = .ok (.iconst 1, 1) := by decide +kernel
theorem kd_M_madeIn_191 : decode kc_M_madeIn 191 = .ok (.bastore, 1) := by decide +kernel
theorem kd_M_madeIn_192 : decode kc_M_madeIn 192 = .ok (.iinc 4 1, 3) := by decide +kernel
theorem kd_M_madeIn_195 : decode kc_M_madeIn 195 = .ok (.goto (-115), 3) := by decide +kernel
theorem kd_M_madeIn_198 : decode kc_M_madeIn 198 = .ok (.iinc 3 1, 3) := by decide +kernel
theorem kd_M_madeIn_201 : decode kc_M_madeIn 201 = .ok (.goto (-130), 3) := by decide +kernel
theorem kd_M_madeIn_204 : decode kc_M_madeIn 204 = .ok (.aload_n 0, 1) := by decide +kernel
theorem kd_M_madeIn_205 : decode kc_M_madeIn 205 = .ok (.getfield 98, 3) := by decide +kernel
theorem kd_M_madeIn_208 : decode kc_M_madeIn 208 = .ok (.iload_n 1, 1) := by decide +kernel
theorem kd_M_madeIn_209 : decode kc_M_madeIn 209 = .ok (.baload, 1) := by decide +kernel
theorem kd_M_madeIn_210 : decode kc_M_madeIn 210 = .ok (.ireturn, 1) := by decide +kernel
theorem kd_M_isDeclaration_0 : decode kc_M_isDeclaration 0 = .ok (.iload_n 1, 1) := by decide +kernel
theorem kd_M_isDeclaration_1 : decode kc_M_isDeclaration 1 = .ok (.ifCond .lt 15, 3) := by decide +kernel
theorem kd_M_isDeclaration_4 : decode kc_M_isDeclaration 4 = .ok (.iload_n 1, 1) := by decide +kernel
theorem kd_M_isDeclaration_5 : decode kc_M_isDeclaration 5 = .ok (.aload_n 0, 1) := by decide +kernel
theorem kd_M_isDeclaration_6 : decode kc_M_isDeclaration 6 = .ok (.getfield 251, 3) := by decide +kernel
theorem kd_M_isDeclaration_9 : decode kc_M_isDeclaration 9 = .ok (.if_icmp .ge 7, 3) := by decide +kernel
theorem kd_M_isDeclaration_12 : decode kc_M_isDeclaration 12 = .ok (.iconst 1, 1) := by decide +kernel
theorem kd_M_isDeclaration_13 : decode kc_M_isDeclaration 13 = .ok (.goto 4, 3) := by decide +kernel
theorem kd_M_isDeclaration_16 : decode kc_M_isDeclaration 16 = .ok (.iconst 0, 1) := by decide +kernel
theorem kd_M_isDeclaration_17 : decode kc_M_isDeclaration 17 = .ok (.ireturn, 1) := by decide +kernel
theorem kd_M_isLine_0 : decode kc_M_isLine 0 = .ok (.aload_n 0, 1) := by decide +kernel
theorem kd_M_isLine_1 : decode kc_M_isLine 1 = .ok (.iload_n 1, 1) := by decide +kernel
theorem kd_M_isLine_2 : decode kc_M_isLine 2 = .ok (.invokevirtual 254, 3) := by decide +kernel
theorem kd_M_isLine_5 : decode kc_M_isLine 5 = .ok (.ifCond .eq 21, 3) := by decide +kernel
theorem kd_M_isLine_8 : decode kc_M_isLine 8 = .ok (.iload_n 2, 1) := by decide +kernel
theorem kd_M_isLine_9 : decode kc_M_isLine 9 = .ok (.ifCond .lt 17, 3) := by decide +kernel
theorem kd_M_isLine_12 : decode kc_M_isLine 12 = .ok (.iload_n 2, 1) := by decide +kernel
theorem kd_M_isLine_13 : decode kc_M_isLine 13 = .ok (.aload_n 0, 1) := by decide +kernel
theorem kd_M_isLine_14 : decode kc_M_isLine 14 = .ok (.getfield 107, 3) := by decide +kernel
theorem kd_M_isLine_17 : decode kc_M_isLine 17 = .ok (.iload_n 1, 1) := by decide +kernel
theorem kd_M_isLine_18 : decode kc_M_isLine 18 = .ok (.iaload, 1) := by decide +kernel
theorem kd_M_isLine_19 : decode kc_M_isLine 19 = .ok (.if_icmp .ge 7, 3) := by decide +kernel
theorem kd_M_isLine_22 : decode kc_M_isLine 22 = .ok (.iconst 1, 1) := by decide +kernel
theorem kd_M_isLine_23 : decode kc_M_isLine 23 = .ok (.goto 4, 3) := by decide +kernel
theorem kd_M_isLine_26 : decode kc_M_isLine 26 = .ok (.iconst 0, 1) := by decide +kernel
theorem kd_M_isLine_27 : decode kc_M_isLine 27 = .ok (.ireturn, 1) := by decide +kernel
theorem kd_M_declare_0 : decode kc_M_declare 0 = .ok (.aload_n 0, 1) := by decide +kernel
theorem kd_M_declare_1 : decode kc_M_declare 1 = .ok (.iload_n 1, 1) := by decide +kernel
theorem kd_M_declare_2 : decode kc_M_declare 2 = .ok (.iconst 0, 1) := by decide +kernel
theorem kd_M_declare_3 : decode kc_M_declare 3 = .ok (.sipush 9999, 3) := by decide +kernel
theorem kd_M_declare_6 : decode kc_M_declare 6 = .ok (.invokestatic 204, 3) := by decide +kernel
theorem kd_M_declare_9 : decode kc_M_declare 9 = .ok (.ifCond .eq 14, 3) := by decide +kernel
theorem kd_M_declare_12 : decode kc_M_declare 12 = .ok (.iload_n 2, 1) := by decide +kernel
theorem kd_M_declare_13 : decode kc_M_declare 13 = .ok (.iconst 0, 1) := by decide +kernel
theorem kd_M_declare_14 : decode kc_M_declare 14 = .ok (.sipush 1439, 3) := by decide +kernel
theorem kd_M_declare_17 : decode kc_M_declare 17 = .ok (.invokestatic 204, 3) := by decide +kernel
theorem kd_M_declare_20 : decode kc_M_declare 20 = .ok (.ifCond .ne 7, 3) := by decide +kernel
theorem kd_M_declare_23 : decode kc_M_declare 23 = .ok (.iconst 1, 1) := by decide +kernel
theorem kd_M_declare_24 : decode kc_M_declare 24 = .ok (.goto 17, 3) := by decide +kernel
theorem kd_M_declare_27 : decode kc_M_declare 27 = .ok (.aload_n 0, 1) := by decide +kernel
theorem kd_M_declare_28 : decode kc_M_declare 28 = .ok (.getfield 251, 3) := by decide +kernel
theorem kd_M_declare_31 : decode kc_M_declare 31 = .ok (.bipush 12, 2) := by decide +kernel
theorem kd_M_declare_33 : decode kc_M_declare 33 = .ok (.if_icmp .ne 7, 3) := by decide +kernel
theorem kd_M_declare_36 : decode kc_M_declare 36 = .ok (.iconst 2, 1) := by decide +kernel
theorem kd_M_declare_37 : decode kc_M_declare 37 = .ok (.goto 4, 3) := by decide +kernel
theorem kd_M_declare_40 : decode kc_M_declare 40 = .ok (.iconst 0, 1) := by decide +kernel
theorem kd_M_declare_41 : decode kc_M_declare 41 = .ok (.putfield 190, 3) := by decide +kernel
theorem kd_M_declare_44 : decode kc_M_declare 44 = .ok (.aload_n 0, 1) := by decide +kernel
theorem kd_M_declare_45 : decode kc_M_declare 45 = .ok (.getfield 190, 3) := by decide +kernel
theorem kd_M_declare_48 : decode kc_M_declare 48 = .ok (.ifCond .le 5, 3) := by decide +kernel
theorem kd_M_declare_51 : decode kc_M_declare 51 = .ok (.iconst 0, 1) := by decide +kernel
theorem kd_M_declare_52 : decode kc_M_declare 52 = .ok (.ireturn, 1) := by decide +kernel
theorem kd_M_declare_53 : decode kc_M_declare 53 = .ok (.aload_n 0, 1) := by decide +kernel
theorem kd_M_declare_54 : decode kc_M_declare 54 = .ok (.getfield 101, 3) := by decide +kernel
theorem kd_M_declare_57 : decode kc_M_declare 57 = .ok (.aload_n 0, 1) := by decide +kernel
theorem kd_M_declare_58 : decode kc_M_declare 58 = .ok (.getfield 251, 3) := by decide +kernel
theorem kd_M_declare_61 : decode kc_M_declare 61 = .ok (.iload_n 1, 1) := by decide +kernel
theorem kd_M_declare_62 : decode kc_M_declare 62 = .ok (.iastore, 1) := by decide +kernel
theorem kd_M_declare_63 : decode kc_M_declare 63 = .ok (.aload_n 0, 1) := by decide +kernel
theorem kd_M_declare_64 : decode kc_M_declare 64 = .ok (.getfield 104, 3) := by decide +kernel
theorem kd_M_declare_67 : decode kc_M_declare 67 = .ok (.aload_n 0, 1) := by decide +kernel
theorem kd_M_declare_68 : decode kc_M_declare 68 = .ok (.getfield 251, 3) := by decide +kernel
theorem kd_M_declare_71 : decode kc_M_declare 71 = .ok (.iload_n 2, 1) := by decide +kernel
theorem kd_M_declare_72 : decode kc_M_declare 72 = .ok (.iastore, 1) := by decide +kernel
theorem kd_M_declare_73 : decode kc_M_declare 73 = .ok (.aload_n 0, 1) := by decide +kernel
theorem kd_M_declare_74 : decode kc_M_declare 74 = .ok (.dup, 1) := by decide +kernel
theorem kd_M_declare_75 : decode kc_M_declare 75 = .ok (.getfield 251, 3) := by decide +kernel
theorem kd_M_declare_78 : decode kc_M_declare 78 = .ok (.iconst 1, 1) := by decide +kernel
theorem kd_M_declare_79 : decode kc_M_declare 79 = .ok (.iadd, 1) := by decide +kernel
theorem kd_M_declare_80 : decode kc_M_declare 80 = .ok (.putfield 251, 3) := by decide +kernel
theorem kd_M_declare_83 : decode kc_M_declare 83 = .ok (.aload_n 0, 1) := by decide +kernel
theorem kd_M_declare_84 : decode kc_M_declare 84 = .ok (.getfield 251, 3) := by decide +kernel
theorem kd_M_declare_87 : decode kc_M_declare 87 = .ok (.iconst 1, 1) := by decide +kernel
theorem kd_M_declare_88 : decode kc_M_declare 88 = .ok (.isub, 1) := by decide +kernel
theorem kd_M_declare_89 : decode kc_M_declare 89 = .ok (.ireturn, 1) := by decide +kernel
theorem kd_M_isField_0 : decode kc_M_isField 0 = .ok (.iload_n 0, 1) := by decide +kernel
theorem kd_M_isField_1 : decode kc_M_isField 1 = .ok (.ifCond .ne 23, 3) := by decide +kernel
theorem kd_M_isField_4 : decode kc_M_isField 4 = .ok (.iload_n 1, 1) := by decide +kernel
theorem kd_M_isField_5 : decode kc_M_isField 5 = .ok (.iconst 1, 1) := by decide +kernel
theorem kd_M_isField_6 : decode kc_M_isField 6 = .ok (.if_icmp .lt 14, 3) := by decide +kernel
theorem kd_M_isField_9 : decode kc_M_isField 9 = .ok (.iload_n 1, 1) := by decide +kernel
theorem kd_M_isField_10 : decode kc_M_isField 10 = .ok (.sipush 1000, 3) := by decide +kernel
theorem kd_M_isField_13 : decode kc_M_isField 13 = .ok (.if_icmp .gt 7, 3) := by decide +kernel
theorem kd_M_isField_16 : decode kc_M_isField 16 = .ok (.iconst 1, 1) := by decide +kernel
theorem kd_M_isField_17 : decode kc_M_isField 17 = .ok (.goto 33, 3) := by decide +kernel
theorem kd_M_isField_20 : decode kc_M_isField 20 = .ok (.iconst 0, 1) := by decide +kernel
theorem kd_M_isField_21 : decode kc_M_isField 21 = .ok (.goto 29, 3) := by decide +kernel
theorem kd_M_isField_24 : decode kc_M_isField 24 = .ok (.iload_n 1, 1) := by decide +kernel
theorem kd_M_isField_25 : decode kc_M_isField 25 = .ok (.ifCond .lt 24, 3) := by decide +kernel
theorem kd_M_isField_28 : decode kc_M_isField 28 = .ok (.iload_n 1, 1) := by decide +kernel
theorem kd_M_isField_29 : decode kc_M_isField 29 = .ok (.iload_n 0, 1) := by decide +kernel
theorem kd_M_isField_30 : decode kc_M_isField 30 = .ok (.iconst 1, 1) := by decide +kernel
theorem kd_M_isField_31 : decode kc_M_isField 31 = .ok (.if_icmp .ne 8, 3) := by decide +kernel
theorem kd_M_isField_34 : decode kc_M_isField 34 = .ok (.ldc 242, 2) := by decide +kernel
theorem kd_M_isField_36 : decode kc_M_isField 36 = .ok (.goto 6, 3) := by decide +kernel
theorem kd_M_isField_39 : decode kc_M_isField 39 = .ok (.ldc_w 257, 3) := by decide +kernel
theorem kd_M_isField_42 : decode kc_M_isField 42 = .ok (.if_icmp .gt 7, 3) := by decide +kernel
theorem kd_M_isField_45 : decode kc_M_isField 45 = .ok (.iconst 1, 1) := by decide +kernel
theorem kd_M_isField_46 : decode kc_M_isField 46 = .ok (.goto 4, 3) := by decide +kernel
theorem kd_M_isField_49 : decode kc_M_isField 49 = .ok (.iconst 0, 1) := by decide +kernel
theorem kd_M_isField_50 : decode kc_M_isField 50 = .ok (.ireturn, 1) := by decide +kernel
theorem kd_M_line_0 : decode kc_M_line 0 = .ok (.aload_n 0, 1) := by decide +kernel
theorem kd_M_line_1 : decode kc_M_line 1 = .ok (.iload_n 1, 1) := by decide +kernel
theorem kd_M_line_2 : decode kc_M_line 2 = .ok (.invokevirtual 254, 3) := by decide +kernel
theorem kd_M_line_5 : decode kc_M_line 5 = .ok (.ifCond .eq 54, 3) := by decide +kernel
theorem kd_M_line_8 : decode kc_M_line 8 = .ok (.iload_n 2, 1) := by decide +kernel
theorem kd_M_line_9 : decode kc_M_line 9 = .ok (.iconst 0, 1) := by decide +kernel
theorem kd_M_line_10 : decode kc_M_line 10 = .ok (.bipush 15, 2) := by decide +kernel
theorem kd_M_line_12 : decode kc_M_line 12 = .ok (.invokestatic 204, 3) := by decide +kernel
theorem kd_M_line_15 : decode kc_M_line 15 = .ok (.ifCond .eq 44, 3) := by decide +kernel
theorem kd_M_line_18 : decode kc_M_line 18 = .ok (.iload_n 3, 1) := by decide +kernel
theorem kd_M_line_19 : decode kc_M_line 19 = .ok (.iconst 0, 1) := by decide +kernel
theorem kd_M_line_20 : decode kc_M_line 20 = .ok (.bipush 7, 2) := by decide +kernel
theorem kd_M_line_22 : decode kc_M_line 22 = .ok (.invokestatic 204, 3) := by decide +kernel
theorem kd_M_line_25 : decode kc_M_line 25 = .ok (.ifCond .eq 34, 3) := by decide +kernel
theorem kd_M_line_28 : decode kc_M_line 28 = .ok (.iconst 0, 1) := by decide +kernel
theorem kd_M_line_29 : decode kc_M_line 29 = .ok (.iload 4, 2) := by decide +kernel
theorem kd_M_line_31 : decode kc_M_line 31 = .ok (.invokestatic 258, 3) := by decide +kernel
theorem kd_M_line_34 : decode kc_M_line 34 = .ok (.ifCond .eq 25, 3) := by decide +kernel
theorem kd_M_line_37 : decode kc_M_line 37 = .ok (.iconst 1, 1) := by decide +kernel
theorem kd_M_line_38 : decode kc_M_line 38 = .ok (.iload 5, 2) := by decide +kernel
theorem kd_M_line_40 : decode kc_M_line 40 = .ok (.invokestatic 258, 3) := by decide +kernel
theorem kd_M_line_43 : decode kc_M_line 43 = .ok (.ifCond .eq 16, 3) := by decide +kernel
theorem kd_M_line_46 : decode kc_M_line 46 = .ok (.iconst 2, 1) := by decide +kernel
theorem kd_M_line_47 : decode kc_M_line 47 = .ok (.iload 6, 2) := by decide +kernel
theorem kd_M_line_49 : decode kc_M_line 49 = .ok (.invokestatic 258, 3) := by decide +kernel
theorem kd_M_line_52 : decode kc_M_line 52 = .ok (.ifCond .eq 7, 3) := by decide +kernel
theorem kd_M_line_55 : decode kc_M_line 55 = .ok (.iconst 1, 1) := by decide +kernel
theorem kd_M_line_56 : decode kc_M_line 56 = .ok (.goto 4, 3) := by decide +kernel
theorem kd_M_line_59 : decode kc_M_line 59 = .ok (.iconst 0, 1) := by decide +kernel
theorem kd_M_line_60 : decode kc_M_line 60 = .ok (.istore 8, 2) := by decide +kernel
theorem kd_M_line_62 : decode kc_M_line 62 = .ok (.aload_n 0, 1) := by decide +kernel
theorem kd_M_line_63 : decode kc_M_line 63 = .ok (.iload 8, 2) := by decide +kernel
theorem kd_M_line_65 : decode kc_M_line 65 = .ok (.ifCond .ne 7, 3) := by decide +kernel
theorem kd_M_line_68 : decode kc_M_line 68 = .ok (.iconst 1, 1) := by decide +kernel
theorem kd_M_line_69 : decode kc_M_line 69 = .ok (.goto 27, 3) := by decide +kernel
theorem kd_M_line_72 : decode kc_M_line 72 = .ok (.aload_n 0, 1) := by decide +kernel
theorem kd_M_line_73 : decode kc_M_line 73 = .ok (.getfield 113, 3) := by decide +kernel
theorem kd_M_line_76 : decode kc_M_line 76 = .ok (.iload_n 1, 1) := by decide +kernel
theorem kd_M_line_77 : decode kc_M_line 77 = .ok (.baload, 1) := by decide +kernel
theorem kd_M_line_78 : decode kc_M_line 78 = .ok (.ifCond .ne 13, 3) := by decide +kernel
theorem kd_M_line_81 : decode kc_M_line 81 = .ok (.aload_n 0, 1) := by decide +kernel
theorem kd_M_line_82 : decode kc_M_line 82 = .ok (.getfield 107, 3) := by decide +kernel
theorem kd_M_line_85 : decode kc_M_line 85 = .ok (.iload_n 1, 1) := by decide +kernel
theorem kd_M_line_86 : decode kc_M_line 86 = .ok (.iaload, 1) := by decide +kernel
theorem kd_M_line_87 : decode kc_M_line 87 = .ok (.iconst 4, 1) := by decide +kernel
theorem kd_M_line_88 : decode kc_M_line 88 = .ok (.if_icmp .ne 7, 3) := by decide +kernel
theorem kd_M_line_91 : decode kc_M_line 91 = .ok (.iconst 2, 1) := by decide +kernel
theorem kd_M_line_92 : decode kc_M_line 92 = .ok (.goto 4, 3) := by decide +kernel
theorem kd_M_line_95 : decode kc_M_line 95 = .ok (.iconst 0, 1) := by decide +kernel
theorem kd_M_line_96 : decode kc_M_line 96 = .ok (.putfield 190, 3) := by decide +kernel
theorem kd_M_line_99 : decode kc_M_line 99 = .ok (.aload_n 0, 1) := by decide +kernel
theorem kd_M_line_100 : decode kc_M_line 100 = .ok (.getfield 190, 3) := by decide +kernel
theorem kd_M_line_103 : decode kc_M_line 103 = .ok (.ifCond .le 5, 3) := by decide +kernel
theorem kd_M_line_106 : decode kc_M_line 106 = .ok (.iconst 0, 1) := by decide +kernel
theorem kd_M_line_107 : decode kc_M_line 107 = .ok (.ireturn, 1) := by decide +kernel
theorem kd_M_line_108 : decode kc_M_line 108 = .ok (.iconst 4, 1) := by decide +kernel
theorem kd_M_line_109 : decode kc_M_line 109 = .ok (.iload_n 1, 1) := by decide +kernel
theorem kd_M_line_110 : decode kc_M_line 110 = .ok (.imul, 1) := by decide +kernel
theorem kd_M_line_111 : decode kc_M_line 111 = .ok (.aload_n 0, 1) := by decide +kernel
theorem kd_M_line_112 : decode kc_M_line 112 = .ok (.getfield 107, 3) := by decide +kernel
theorem kd_M_line_115 : decode kc_M_line 115 = .ok (.iload_n 1, 1) := by decide +kernel
theorem kd_M_line_116 : decode kc_M_line 116 = .ok (.iaload, 1) := by decide +kernel
theorem kd_M_line_117 : decode kc_M_line 117 = .ok (.iadd, 1) := by decide +kernel
theorem kd_M_line_118 : decode kc_M_line 118 = .ok (.istore 9, 2) := by decide +kernel
theorem kd_M_line_120 : decode kc_M_line 120 = .ok (.aload_n 0, 1) := by decide +kernel
theorem kd_M_line_121 : decode kc_M_line 121 = .ok (.getfield 120, 3) := by decide +kernel
theorem kd_M_line_124 : decode kc_M_line 124 = .ok (.iload 9, 2) := by decide +kernel
theorem kd_M_line_126 : decode kc_M_line 126 = .ok (.iload_n 2, 1) := by decide +kernel
theorem kd_M_line_127 : decode kc_M_line 127 = .ok (.iastore, 1) := by decide +kernel
theorem kd_M_line_128 : decode kc_M_line 128 = .ok (.aload_n 0, 1) := by decide +kernel
theorem kd_M_line_129 : decode kc_M_line 129 = .ok (.getfield 123, 3) := by decide +kernel
theorem kd_M_line_132 : decode kc_M_line 132 = .ok (.iload 9, 2) := by decide +kernel
theorem kd_M_line_134 : decode kc_M_line 134 = .ok (.iload_n 3, 1) := by decide +kernel
theorem kd_M_line_135 : decode kc_M_line 135 = .ok (.iastore, 1) := by decide +kernel
theorem kd_M_line_136 : decode kc_M_line 136 = .ok (.aload_n 0, 1) := by decide +kernel
theorem kd_M_line_137 : decode kc_M_line 137 = .ok (.getfield 126, 3) := by decide +kernel
theorem kd_M_line_140 : decode kc_M_line 140 = .ok (.iload 9, 2) := by decide +kernel
theorem kd_M_line_142 : decode kc_M_line 142 = .ok (.iload 7, 2) := by decide +kernel
theorem kd_M_line_144 : decode kc_M_line 144 = .ok (.bastore, 1) := by decide +kernel
theorem kd_M_line_145 : decode kc_M_line 145 = .ok (.aload_n 0, 1) := by decide +kernel
theorem kd_M_line_146 : decode kc_M_line 146 = .ok (.getfield 129, 3) := by decide +kernel
theorem kd_M_line_149 : decode kc_M_line 149 = .ok (.iconst 3, 1) := by decide +kernel
theorem kd_M_line_150 : decode kc_M_line 150 = .ok (.iload 9, 2) := by decide +kernel
theorem kd_M_line_152 : decode kc_M_line 152 = .ok (.imul, 1) := by decide +kernel
theorem kd_M_line_153 : decode kc_M_line 153 = .ok (.iload 4, 2) := by decide +kernel
theorem kd_M_line_155 : decode kc_M_line 155 = .ok (.iastore, 1) := by decide +kernel
theorem kd_M_line_156 : decode kc_M_line 156 = .ok (.aload_n 0, 1) := by decide +kernel
theorem kd_M_line_157 : decode kc_M_line 157 = .ok (.getfield 129, 3) := by decide +kernel
theorem kd_M_line_160 : decode kc_M_line 160 = .ok (.iconst 3, 1) := by decide +kernel
theorem kd_M_line_161 : decode kc_M_line 161 = .ok (.iload 9, 2) := by decide +kernel
theorem kd_M_line_163 : decode kc_M_line 163 = .ok (.imul, 1) := by decide +kernel
theorem kd_M_line_164 : decode kc_M_line 164 = .ok (.iconst 1, 1) := by decide +kernel
theorem kd_M_line_165 : decode kc_M_line 165 = .ok (.iadd, 1) := by decide +kernel
theorem kd_M_line_166 : decode kc_M_line 166 = .ok (.iload 5, 2) := by decide +kernel
theorem kd_M_line_168 : decode kc_M_line 168 = .ok (.iastore, 1) := by decide +kernel
theorem kd_M_line_169 : decode kc_M_line 169 = .ok (.aload_n 0, 1) := by decide +kernel
theorem kd_M_line_170 : decode kc_M_line 170 = .ok (.getfield 129, 3) := by decide +kernel
theorem kd_M_line_173 : decode kc_M_line 173 = .ok (.iconst 3, 1) := by decide +kernel
theorem kd_M_line_174 : decode kc_M_line 174 = .ok (.iload 9, 2) := by decide +kernel
theorem kd_M_line_176 : decode kc_M_line 176 = .ok (.imul, 1) := by decide +kernel
