theorem kd_M_find_10 : decode kc_M_find 10 = .ok (.goto 4, 3) := by decide +kernel
theorem kd_M_find_13 : decode kc_M_find 13 = .ok (.iconst 0, 1) := by decide +kernel
theorem kd_M_find_14 : decode kc_M_find 14 = .ok (.istore_n 2, 1) := by decide +kernel
theorem kd_M_find_15 : decode kc_M_find 15 = .ok (.iconst 0, 1) := by decide +kernel
theorem kd_M_find_16 : decode kc_M_find 16 = .ok (.istore_n 3, 1) := by decide +kernel
theorem kd_M_find_17 : decode kc_M_find 17 = .ok (.iload_n 3, 1) := by decide +kernel
theorem kd_M_find_18 : decode kc_M_find 18 = .ok (.aload_n 0, 1) := by decide +kernel
theorem kd_M_find_19 : decode kc_M_find 19 = .ok (.getfield 107, 3) := by decide +kernel
theorem kd_M_find_22 : decode kc_M_find 22 = .ok (.iload_n 1, 1) := by decide +kernel
theorem kd_M_find_23 : decode kc_M_find 23 = .ok (.iaload, 1) := by decide +kernel
theorem kd_M_find_24 : decode kc_M_find 24 = .ok (.if_icmp .ge 116, 3) := by decide +kernel
theorem kd_M_find_27 : decode kc_M_find 27 = .ok (.iconst 4, 1) := by decide +kernel
theorem kd_M_find_28 : decode kc_M_find 28 = .ok (.iload_n 1, 1) := by decide +kernel
theorem kd_M_find_29 : decode kc_M_find 29 = .ok (.imul, 1) := by decide +kernel
theorem kd_M_find_30 : decode kc_M_find 30 = .ok (.iload_n 3, 1) := by decide +kernel
theorem kd_M_find_31 : decode kc_M_find 31 = .ok (.iadd, 1) := by decide +kernel
theorem kd_M_find_32 : decode kc_M_find 32 = .ok (.istore 4, 2) := by decide +kernel
theorem kd_M_find_34 : decode kc_M_find 34 = .ok (.aload_n 0, 1) := by decide +kernel
theorem kd_M_find_35 : decode kc_M_find 35 = .ok (.aload_n 0, 1) := by decide +kernel
theorem kd_M_find_36 : decode kc_M_find 36 = .ok (.getfield 120, 3) := by decide +kernel
theorem kd_M_find_39 : decode kc_M_find 39 = .ok (.iload 4, 2) := by decide +kernel
theorem kd_M_find_41 : decode kc_M_find 41 = .ok (.iaload, 1) := by decide +kernel
theorem kd_M_find_42 : decode kc_M_find 42 = .ok (.invokevirtual 225, 3) := by decide +kernel
theorem kd_M_find_45 : decode kc_M_find 45 = .ok (.istore 5, 2) := by decide +kernel
theorem kd_M_find_47 : decode kc_M_find 47 = .ok (.aload_n 0, 1) := by decide +kernel
theorem kd_M_find_48 : decode kc_M_find 48 = .ok (.getfield 151, 3) := by decide +kernel
theorem kd_M_find_51 : decode kc_M_find 51 = .ok (.iload_n 3, 1) := by decide +kernel
theorem kd_M_find_52 : decode kc_M_find 52 = .ok (.iload 5, 2) := by decide +kernel
theorem kd_M_find_54 : decode kc_M_find 54 = .ok (.ifCond .ge 7, 3) := by decide +kernel
theorem kd_M_find_57 : decode kc_M_find 57 = .ok (.iconst (-1), 1) := by decide +kernel
theorem kd_M_find_58 : decode kc_M_find 58 = .ok (.goto 22, 3) := by decide +kernel
theorem kd_M_find_61 : decode kc_M_find 61 = .ok (.aload_n 0, 1) := by decide +kernel
theorem kd_M_find_62 : decode kc_M_find 62 = .ok (.iload 5, 2) := by decide +kernel
theorem kd_M_find_64 : decode kc_M_find 64 = .ok (.aload_n 0, 1) := by decide +kernel
theorem kd_M_find_65 : decode kc_M_find 65 = .ok (.getfield 123, 3) := by decide +kernel
theorem kd_M_find_68 : decode kc_M_find 68 = .ok (.iload 4, 2) := by decide +kernel
theorem kd_M_find_70 : decode kc_M_find 70 = .ok (.iaload, 1) := by decide +kernel
theorem kd_M_find_71 : decode kc_M_find 71 = .ok (.aload_n 0, 1) := by decide +kernel
theorem kd_M_find_72 : decode kc_M_find 72 = .ok (.getfield 101, 3) := by decide +kernel
theorem kd_M_find_75 : decode kc_M_find 75 = .ok (.iload_n 1, 1) := by decide +kernel
theorem kd_M_find_76 : decode kc_M_find 76 = .ok (.iaload, 1) := by decide +kernel
theorem kd_M_find_77 : decode kc_M_find 77 = .ok (.invokevirtual 235, 3) := by decide +kernel
theorem kd_M_find_80 : decode kc_M_find 80 = .ok (.iastore, 1) := by decide +kernel
theorem kd_M_find_81 : decode kc_M_find 81 = .ok (.aload_n 0, 1) := by decide +kernel
theorem kd_M_find_82 : decode kc_M_find 82 = .ok (.getfield 154, 3) := by decide +kernel
theorem kd_M_find_85 : decode kc_M_find 85 = .ok (.iload_n 3, 1) := by decide +kernel
theorem kd_M_find_86 : decode kc_M_find 86 = .ok (.iload 5, 2) := by decide +kernel
theorem kd_M_find_88 : decode kc_M_find 88 = .ok (.ifCond .ge 7, 3) := by decide +kernel
theorem kd_M_find_91 : decode kc_M_find 91 = .ok (.iconst (-1), 1) := by decide +kernel
theorem kd_M_find_92 : decode kc_M_find 92 = .ok (.goto 22, 3) := by decide +kernel
theorem kd_M_find_95 : decode kc_M_find 95 = .ok (.aload_n 0, 1) := by decide +kernel
theorem kd_M_find_96 : decode kc_M_find 96 = .ok (.iload 5, 2) := by decide +kernel
theorem kd_M_find_98 : decode kc_M_find 98 = .ok (.aload_n 0, 1) := by decide +kernel
theorem kd_M_find_99 : decode kc_M_find 99 = .ok (.getfield 123, 3) := by decide +kernel
theorem kd_M_find_102 : decode kc_M_find 102 = .ok (.iload 4, 2) := by decide +kernel
theorem kd_M_find_104 : decode kc_M_find 104 = .ok (.iaload, 1) := by decide +kernel
theorem kd_M_find_105 : decode kc_M_find 105 = .ok (.aload_n 0, 1) := by decide +kernel
theorem kd_M_find_106 : decode kc_M_find 106 = .ok (.getfield 101, 3) := by decide +kernel
theorem kd_M_find_109 : decode kc_M_find 109 = .ok (.iload_n 1, 1) := by decide +kernel
theorem kd_M_find_110 : decode kc_M_find 110 = .ok (.iaload, 1) := by decide +kernel
theorem kd_M_find_111 : decode kc_M_find 111 = .ok (.invokevirtual 268, 3) := by decide +kernel
theorem kd_M_find_114 : decode kc_M_find 114 = .ok (.iastore, 1) := by decide +kernel
theorem kd_M_find_115 : decode kc_M_find 115 = .ok (.iload_n 2, 1) := by decide +kernel
theorem kd_M_find_116 : decode kc_M_find 116 = .ok (.ifCond .eq 16, 3) := by decide +kernel
theorem kd_M_find_119 : decode kc_M_find 119 = .ok (.aload_n 0, 1) := by decide +kernel
theorem kd_M_find_120 : decode kc_M_find 120 = .ok (.getfield 151, 3) := by decide +kernel
theorem kd_M_find_123 : decode kc_M_find 123 = .ok (.iload_n 3, 1) := by decide +kernel
theorem kd_M_find_124 : decode kc_M_find 124 = .ok (.iaload, 1) := by decide +kernel
theorem kd_M_find_125 : decode kc_M_find 125 = .ok (.ifCond .lt 7, 3) := by decide +kernel
theorem kd_M_find_128 : decode kc_M_find 128 = .ok (.iconst 1, 1) := by decide +kernel
theorem kd_M_find_129 : decode kc_M_find 129 = .ok (.goto 4, 3) := by decide +kernel
theorem kd_M_find_132 : decode kc_M_find 132 = .ok (.iconst 0, 1) := by decide +kernel
theorem kd_M_find_133 : decode kc_M_find 133 = .ok (.istore_n 2, 1) := by decide +kernel
theorem kd_M_find_134 : decode kc_M_find 134 = .ok (.iinc 3 1, 3) := by decide +kernel
theorem kd_M_find_137 : decode kc_M_find 137 = .ok (.goto (-120), 3) := by decide +kernel
theorem kd_M_find_140 : decode kc_M_find 140 = .ok (.iload_n 2, 1) := by decide +kernel
theorem kd_M_find_141 : decode kc_M_find 141 = .ok (.ireturn, 1) := by decide +kernel
theorem kd_M_dutyOf_0 : decode kc_M_dutyOf 0 = .ok (.iconst 4, 1) := by decide +kernel
theorem kd_M_dutyOf_1 : decode kc_M_dutyOf 1 = .ok (.iload_n 1, 1) := by decide +kernel
theorem kd_M_dutyOf_2 : decode kc_M_dutyOf 2 = .ok (.imul, 1) := by decide +kernel
theorem kd_M_dutyOf_3 : decode kc_M_dutyOf 3 = .ok (.iload_n 2, 1) := by decide +kernel
theorem kd_M_dutyOf_4 : decode kc_M_dutyOf 4 = .ok (.iadd, 1) := by decide +kernel
theorem kd_M_dutyOf_5 : decode kc_M_dutyOf 5 = .ok (.istore_n 3, 1) := by decide +kernel
theorem kd_M_dutyOf_6 : decode kc_M_dutyOf 6 = .ok (.aload_n 0, 1) := by decide +kernel
theorem kd_M_dutyOf_7 : decode kc_M_dutyOf 7 = .ok (.getfield 151, 3) := by decide +kernel
theorem kd_M_dutyOf_10 : decode kc_M_dutyOf 10 = .ok (.iload_n 2, 1) := by decide +kernel
theorem kd_M_dutyOf_11 : decode kc_M_dutyOf 11 = .ok (.iaload, 1) := by decide +kernel
theorem kd_M_dutyOf_12 : decode kc_M_dutyOf 12 = .ok (.istore 4, 2) := by decide +kernel
theorem kd_M_dutyOf_14 : decode kc_M_dutyOf 14 = .ok (.aload_n 0, 1) := by decide +kernel
theorem kd_M_dutyOf_15 : decode kc_M_dutyOf 15 = .ok (.getfield 129, 3) := by decide +kernel
theorem kd_M_dutyOf_18 : decode kc_M_dutyOf 18 = .ok (.iconst 3, 1) := by decide +kernel
theorem kd_M_dutyOf_19 : decode kc_M_dutyOf 19 = .ok (.iload_n 3, 1) := by decide +kernel
theorem kd_M_dutyOf_20 : decode kc_M_dutyOf 20 = .ok (.imul, 1) := by decide +kernel
theorem kd_M_dutyOf_21 : decode kc_M_dutyOf 21 = .ok (.iaload, 1) := by decide +kernel
theorem kd_M_dutyOf_22 : decode kc_M_dutyOf 22 = .ok (.i2l, 1) := by decide +kernel
theorem kd_M_dutyOf_23 : decode kc_M_dutyOf 23 = .ok (.lstore 5, 2) := by decide +kernel
theorem kd_M_dutyOf_25 : decode kc_M_dutyOf 25 = .ok (.aload_n 0, 1) := by decide +kernel
theorem kd_M_dutyOf_26 : decode kc_M_dutyOf 26 = .ok (.getfield 40, 3) := by decide +kernel
theorem kd_M_dutyOf_29 : decode kc_M_dutyOf 29 = .ok (.iload 4, 2) := by decide +kernel
theorem kd_M_dutyOf_31 : decode kc_M_dutyOf 31 = .ok (.iaload, 1) := by decide +kernel
theorem kd_M_dutyOf_32 : decode kc_M_dutyOf 32 = .ok (.i2l, 1) := by decide +kernel
theorem kd_M_dutyOf_33 : decode kc_M_dutyOf 33 = .ok (.aload_n 0, 1) := by decide +kernel
theorem kd_M_dutyOf_34 : decode kc_M_dutyOf 34 = .ok (.getfield 132, 3) := by decide +kernel
theorem kd_M_dutyOf_37 : decode kc_M_dutyOf 37 = .ok (.iload_n 3, 1) := by decide +kernel
theorem kd_M_dutyOf_38 : decode kc_M_dutyOf 38 = .ok (.laload, 1) := by decide +kernel
theorem kd_M_dutyOf_39 : decode kc_M_dutyOf 39 = .ok (.lmul, 1) := by decide +kernel
theorem kd_M_dutyOf_40 : decode kc_M_dutyOf 40 = .ok (.lstore 7, 2) := by decide +kernel
theorem kd_M_dutyOf_42 : decode kc_M_dutyOf 42 = .ok (.aload_n 0, 1) := by decide +kernel
theorem kd_M_dutyOf_43 : decode kc_M_dutyOf 43 = .ok (.getfield 43, 3) := by decide +kernel
theorem kd_M_dutyOf_46 : decode kc_M_dutyOf 46 = .ok (.iload 4, 2) := by decide +kernel
theorem kd_M_dutyOf_48 : decode kc_M_dutyOf 48 = .ok (.iaload, 1) := by decide +kernel
theorem kd_M_dutyOf_49 : decode kc_M_dutyOf 49 = .ok (.i2l, 1) := by decide +kernel
theorem kd_M_dutyOf_50 : decode kc_M_dutyOf 50 = .ok (.aload_n 0, 1) := by decide +kernel
theorem kd_M_dutyOf_51 : decode kc_M_dutyOf 51 = .ok (.getfield 129, 3) := by decide +kernel
theorem kd_M_dutyOf_54 : decode kc_M_dutyOf 54 = .ok (.iconst 3, 1) := by decide +kernel
theorem kd_M_dutyOf_55 : decode kc_M_dutyOf 55 = .ok (.iload_n 3, 1) := by decide +kernel
theorem kd_M_dutyOf_56 : decode kc_M_dutyOf 56 = .ok (.imul, 1) := by decide +kernel
theorem kd_M_dutyOf_57 : decode kc_M_dutyOf 57 = .ok (.iconst 1, 1) := by decide +kernel
theorem kd_M_dutyOf_58 : decode kc_M_dutyOf 58 = .ok (.iadd, 1) := by decide +kernel
theorem kd_M_dutyOf_59 : decode kc_M_dutyOf 59 = .ok (.iaload, 1) := by decide +kernel
theorem kd_M_dutyOf_60 : decode kc_M_dutyOf 60 = .ok (.i2l, 1) := by decide +kernel
theorem kd_M_dutyOf_61 : decode kc_M_dutyOf 61 = .ok (.lmul, 1) := by decide +kernel
theorem kd_M_dutyOf_62 : decode kc_M_dutyOf 62 = .ok (.ldc2_w 271, 3) := by decide +kernel
theorem kd_M_dutyOf_65 : decode kc_M_dutyOf 65 = .ok (.lmul, 1) := by decide +kernel
theorem kd_M_dutyOf_66 : decode kc_M_dutyOf 66 = .ok (.lstore 9, 2) := by decide +kernel
theorem kd_M_dutyOf_68 : decode kc_M_dutyOf 68 = .ok (.aload_n 0, 1) := by decide +kernel
theorem kd_M_dutyOf_69 : decode kc_M_dutyOf 69 = .ok (.getfield 37, 3) := by decide +kernel
theorem kd_M_dutyOf_72 : decode kc_M_dutyOf 72 = .ok (.iload 4, 2) := by decide +kernel
theorem kd_M_dutyOf_74 : decode kc_M_dutyOf 74 = .ok (.iaload, 1) := by decide +kernel
theorem kd_M_dutyOf_75 : decode kc_M_dutyOf 75 = .ok (.ifCond .ne 8, 3) := by decide +kernel
theorem kd_M_dutyOf_78 : decode kc_M_dutyOf 78 = .ok (.lload 7, 2) := by decide +kernel
theorem kd_M_dutyOf_80 : decode kc_M_dutyOf 80 = .ok (.goto 53, 3) := by decide +kernel
theorem kd_M_dutyOf_83 : decode kc_M_dutyOf 83 = .ok (.aload_n 0, 1) := by decide +kernel
theorem kd_M_dutyOf_84 : decode kc_M_dutyOf 84 = .ok (.getfield 37, 3) := by decide +kernel
theorem kd_M_dutyOf_87 : decode kc_M_dutyOf 87 = .ok (.iload 4, 2) := by decide +kernel
theorem kd_M_dutyOf_89 : decode kc_M_dutyOf 89 = .ok (.iaload, 1) := by decide +kernel
theorem kd_M_dutyOf_90 : decode kc_M_dutyOf 90 = .ok (.iconst 1, 1) := by decide +kernel
theorem kd_M_dutyOf_91 : decode kc_M_dutyOf 91 = .ok (.if_icmp .ne 8, 3) := by decide +kernel
theorem kd_M_dutyOf_94 : decode kc_M_dutyOf 94 = .ok (.lload 9, 2) := by decide +kernel
theorem kd_M_dutyOf_96 : decode kc_M_dutyOf 96 = .ok (.goto 37, 3) := by decide +kernel
theorem kd_M_dutyOf_99 : decode kc_M_dutyOf 99 = .ok (.aload_n 0, 1) := by decide +kernel
theorem kd_M_dutyOf_100 : decode kc_M_dutyOf 100 = .ok (.getfield 37, 3) := by decide +kernel
theorem kd_M_dutyOf_103 : decode kc_M_dutyOf 103 = .ok (.iload 4, 2) := by decide +kernel
theorem kd_M_dutyOf_105 : decode kc_M_dutyOf 105 = .ok (.iaload, 1) := by decide +kernel
theorem kd_M_dutyOf_106 : decode kc_M_dutyOf 106 = .ok (.iconst 3, 1) := by decide +kernel
theorem kd_M_dutyOf_107 : decode kc_M_dutyOf 107 = .ok (.if_icmp .ne 11, 3) := by decide +kernel
theorem kd_M_dutyOf_110 : decode kc_M_dutyOf 110 = .ok (.lload 7, 2) := by decide +kernel
theorem kd_M_dutyOf_112 : decode kc_M_dutyOf 112 = .ok (.lload 9, 2) := by decide +kernel
theorem kd_M_dutyOf_114 : decode kc_M_dutyOf 114 = .ok (.ladd, 1) := by decide +kernel
theorem kd_M_dutyOf_115 : decode kc_M_dutyOf 115 = .ok (.goto 18, 3) := by decide +kernel
theorem kd_M_dutyOf_118 : decode kc_M_dutyOf 118 = .ok (.lload 7, 2) := by decide +kernel
theorem kd_M_dutyOf_120 : decode kc_M_dutyOf 120 = .ok (.lload 9, 2) := by decide +kernel
theorem kd_M_dutyOf_122 : decode kc_M_dutyOf 122 = .ok (.lcmp, 1) := by decide +kernel
theorem kd_M_dutyOf_123 : decode kc_M_dutyOf 123 = .ok (.ifCond .le 8, 3) := by decide +kernel
theorem kd_M_dutyOf_126 : decode kc_M_dutyOf 126 = .ok (.lload 7, 2) := by decide +kernel
theorem kd_M_dutyOf_128 : decode kc_M_dutyOf 128 = .ok (.goto 5, 3) := by decide +kernel
theorem kd_M_dutyOf_131 : decode kc_M_dutyOf 131 = .ok (.lload 9, 2) := by decide +kernel
theorem kd_M_dutyOf_133 : decode kc_M_dutyOf 133 = .ok (.lstore 11, 2) := by decide +kernel
theorem kd_M_dutyOf_135 : decode kc_M_dutyOf 135 = .ok (.lload 11, 2) := by decide +kernel
theorem kd_M_dutyOf_137 : decode kc_M_dutyOf 137 = .ok (.lload 5, 2) := by decide +kernel
theorem kd_M_dutyOf_139 : decode kc_M_dutyOf 139 = .ok (.aload_n 0, 1) := by decide +kernel
theorem kd_M_dutyOf_140 : decode kc_M_dutyOf 140 = .ok (.getfield 157, 3) := by decide +kernel
theorem kd_M_dutyOf_143 : decode kc_M_dutyOf 143 = .ok (.iload_n 2, 1) := by decide +kernel
theorem kd_M_dutyOf_144 : decode kc_M_dutyOf 144 = .ok (.iaload, 1) := by decide +kernel
theorem kd_M_dutyOf_145 : decode kc_M_dutyOf 145 = .ok (.i2l, 1) := by decide +kernel
theorem kd_M_dutyOf_146 : decode kc_M_dutyOf 146 = .ok (.lsub, 1) := by decide +kernel
theorem kd_M_dutyOf_147 : decode kc_M_dutyOf 147 = .ok (.lmul, 1) := by decide +kernel
theorem kd_M_dutyOf_148 : decode kc_M_dutyOf 148 = .ok (.lstore 13, 2) := by decide +kernel
theorem kd_M_dutyOf_150 : decode kc_M_dutyOf 150 = .ok (.aload_n 0, 1) := by decide +kernel
theorem kd_M_dutyOf_151 : decode kc_M_dutyOf 151 = .ok (.getfield 154, 3) := by decide +kernel
theorem kd_M_dutyOf_154 : decode kc_M_dutyOf 154 = .ok (.iload_n 2, 1) := by decide +kernel
theorem kd_M_dutyOf_155 : decode kc_M_dutyOf 155 = .ok (.iaload, 1) := by decide +kernel
theorem kd_M_dutyOf_156 : decode kc_M_dutyOf 156 = .ok (.ifCond .ge 8, 3) := by decide +kernel
theorem kd_M_dutyOf_159 : decode kc_M_dutyOf 159 = .ok (.lload 13, 2) := by decide +kernel
theorem kd_M_dutyOf_161 : decode kc_M_dutyOf 161 = .ok (.goto 33, 3) := by decide +kernel
theorem kd_M_dutyOf_164 : decode kc_M_dutyOf 164 = .ok (.lload 13, 2) := by decide +kernel
theorem kd_M_dutyOf_166 : decode kc_M_dutyOf 166 = .ok (.aload_n 0, 1) := by decide +kernel
theorem kd_M_dutyOf_167 : decode kc_M_dutyOf 167 = .ok (.getfield 58, 3) := by decide +kernel
theorem kd_M_dutyOf_170 : decode kc_M_dutyOf 170 = .ok (.aload_n 0, 1) := by decide +kernel
theorem kd_M_dutyOf_171 : decode kc_M_dutyOf 171 = .ok (.getfield 154, 3) := by decide +kernel
theorem kd_M_dutyOf_174 : decode kc_M_dutyOf 174 = .ok (.iload_n 2, 1) := by decide +kernel
theorem kd_M_dutyOf_175 : decode kc_M_dutyOf 175 = .ok (.iaload, 1) := by decide +kernel
theorem kd_M_dutyOf_176 : decode kc_M_dutyOf 176 = .ok (.iaload, 1) := by decide +kernel
theorem kd_M_dutyOf_177 : decode kc_M_dutyOf 177 = .ok (.i2l, 1) := by decide +kernel
theorem kd_M_dutyOf_178 : decode kc_M_dutyOf 178 = .ok (.aload_n 0, 1) := by decide +kernel
theorem kd_M_dutyOf_179 : decode kc_M_dutyOf 179 = .ok (.getfield 132, 3) := by decide +kernel
theorem kd_M_dutyOf_182 : decode kc_M_dutyOf 182 = .ok (.iload_n 3, 1) := by decide +kernel
theorem kd_M_dutyOf_183 : decode kc_M_dutyOf 183 = .ok (.laload, 1) := by decide +kernel
theorem kd_M_dutyOf_184 : decode kc_M_dutyOf 184 = .ok (.lmul, 1) := by decide +kernel
theorem kd_M_dutyOf_185 : decode kc_M_dutyOf 185 = .ok (.aload_n 0, 1) := by decide +kernel
theorem kd_M_dutyOf_186 : decode kc_M_dutyOf 186 = .ok (.getfield 157, 3) := by decide +kernel
theorem kd_M_dutyOf_189 : decode kc_M_dutyOf 189 = .ok (.iload_n 2, 1) := by decide +kernel
theorem kd_M_dutyOf_190 : decode kc_M_dutyOf 190 = .ok (.iaload, 1) := by decide +kernel
theorem kd_M_dutyOf_191 : decode kc_M_dutyOf 191 = .ok (.i2l, 1) := by decide +kernel
theorem kd_M_dutyOf_192 : decode kc_M_dutyOf 192 = .ok (.lmul, 1) := by decide +kernel
theorem kd_M_dutyOf_193 : decode kc_M_dutyOf 193 = .ok (.ladd, 1) := by decide +kernel
theorem kd_M_dutyOf_194 : decode kc_M_dutyOf 194 = .ok (.lstore 13, 2) := by decide +kernel
theorem kd_M_dutyOf_196 : decode kc_M_dutyOf 196 = .ok (.lload 13, 2) := by decide +kernel
theorem kd_M_dutyOf_198 : decode kc_M_dutyOf 198 = .ok (.ldc2_w 271, 3) := by decide +kernel
theorem kd_M_dutyOf_201 : decode kc_M_dutyOf 201 = .ok (.lload 5, 2) := by decide +kernel
theorem kd_M_dutyOf_203 : decode kc_M_dutyOf 203 = .ok (.lmul, 1) := by decide +kernel
theorem kd_M_dutyOf_204 : decode kc_M_dutyOf 204 = .ok (.ldiv, 1) := by decide +kernel
theorem kd_M_dutyOf_205 : decode kc_M_dutyOf 205 = .ok (.lstore 15, 2) := by decide +kernel
theorem kd_M_dutyOf_207 : decode kc_M_dutyOf 207 = .ok (.lload 13, 2) := by decide +kernel
theorem kd_M_dutyOf_209 : decode kc_M_dutyOf 209 = .ok (.ldc2_w 271, 3) := by decide +kernel
theorem kd_M_dutyOf_212 : decode kc_M_dutyOf 212 = .ok (.lload 5, 2) := by decide +kernel
theorem kd_M_dutyOf_214 : decode kc_M_dutyOf 214 = .ok (.lmul, 1) := by decide +kernel
theorem kd_M_dutyOf_215 : decode kc_M_dutyOf 215 = .ok (.lrem, 1) := by decide +kernel
theorem kd_M_dutyOf_216 : decode kc_M_dutyOf 216 = .ok (.lstore 17, 2) := by decide +kernel
theorem kd_M_dutyOf_218 : decode kc_M_dutyOf 218 = .ok (.ldc2_w 273, 3) := by decide +kernel
theorem kd_M_dutyOf_221 : decode kc_M_dutyOf 221 = .ok (.lload 17, 2) := by decide +kernel
theorem kd_M_dutyOf_223 : decode kc_M_dutyOf 223 = .ok (.lmul, 1) := by decide +kernel
theorem kd_M_dutyOf_224 : decode kc_M_dutyOf 224 = .ok (.ldc2_w 271, 3) := by decide +kernel
theorem kd_M_dutyOf_227 : decode kc_M_dutyOf 227 = .ok (.lload 5, 2) := by decide +kernel
theorem kd_M_dutyOf_229 : decode kc_M_dutyOf 229 = .ok (.lmul, 1) := by decide +kernel
theorem kd_M_dutyOf_230 : decode kc_M_dutyOf 230 = .ok (.lcmp, 1) := by decide +kernel
theorem kd_M_dutyOf_231 : decode kc_M_dutyOf 231 = .ok (.ifCond .lt 10, 3) := by decide +kernel
theorem kd_M_dutyOf_234 : decode kc_M_dutyOf 234 = .ok (.lload 15, 2) := by decide +kernel
theorem kd_M_dutyOf_236 : decode kc_M_dutyOf 236 = .ok (.lconst 1, 1) := by decide +kernel
theorem kd_M_dutyOf_237 : decode kc_M_dutyOf 237 = .ok (.ladd, 1) := by decide +kernel
theorem kd_M_dutyOf_238 : decode kc_M_dutyOf 238 = .ok (.goto 5, 3) := by decide +kernel
theorem kd_M_dutyOf_241 : decode kc_M_dutyOf 241 = .ok (.lload 15, 2) := by decide +kernel
theorem kd_M_dutyOf_243 : decode kc_M_dutyOf 243 = .ok (.lreturn, 1) := by decide +kernel
theorem kd_M_workOut_0 : decode kc_M_workOut 0 = .ok (.aload_n 0, 1) := by decide +kernel
theorem kd_M_workOut_1 : decode kc_M_workOut 1 = .ok (.iload_n 1, 1) := by decide +kernel
theorem kd_M_workOut_2 : decode kc_M_workOut 2 = .ok (.invokevirtual 275, 3) := by decide +kernel
theorem kd_M_workOut_5 : decode kc_M_workOut 5 = .ok (.lconst 0, 1) := by decide +kernel
theorem kd_M_workOut_6 : decode kc_M_workOut 6 = .ok (.lstore_n 2, 1) := by decide +kernel
theorem kd_M_workOut_7 : decode kc_M_workOut 7 = .ok (.iconst 0, 1) := by decide +kernel
theorem kd_M_workOut_8 : decode kc_M_workOut 8 = .ok (.istore 4, 2) := by decide +kernel
theorem kd_M_workOut_10 : decode kc_M_workOut 10 = .ok (.iload 4, 2) := by decide +kernel
theorem kd_M_workOut_12 : decode kc_M_workOut 12 = .ok (.aload_n 0, 1) := by decide +kernel
theorem kd_M_workOut_13 : decode kc_M_workOut 13 = .ok (.getfield 107, 3) := by decide +kernel
theorem kd_M_workOut_16 : decode kc_M_workOut 16 = .ok (.iload_n 1, 1) := by decide +kernel
theorem kd_M_workOut_17 : decode kc_M_workOut 17 = .ok (.iaload, 1) := by decide +kernel
theorem kd_M_workOut_18 : decode kc_M_workOut 18 = .ok (.if_icmp .ge 139, 3) := by decide +kernel
theorem kd_M_workOut_21 : decode kc_M_workOut 21 = .ok (.aload_n 0, 1) := by decide +kernel
theorem kd_M_workOut_22 : decode kc_M_workOut 22 = .ok (.getfield 154, 3) := by decide +kernel
theorem kd_M_workOut_25 : decode kc_M_workOut 25 = .ok (.iload 4, 2) := by decide +kernel
theorem kd_M_workOut_27 : decode kc_M_workOut 27 = .ok (.iaload, 1) := by decide +kernel
theorem kd_M_workOut_28 : decode kc_M_workOut 28 = .ok (.istore 5, 2) := by decide +kernel
theorem kd_M_workOut_30 : decode kc_M_workOut 30 = .ok (.aload_n 0, 1) := by decide +kernel
theorem kd_M_workOut_31 : decode kc_M_workOut 31 = .ok (.getfield 129, 3) := by decide +kernel
theorem kd_M_workOut_34 : decode kc_M_workOut 34 = .ok (.iconst 3, 1) := by decide +kernel
theorem kd_M_workOut_35 : decode kc_M_workOut 35 = .ok (.iconst 4, 1) := by decide +kernel
theorem kd_M_workOut_36 : decode kc_M_workOut 36 = .ok (.iload_n 1, 1) := by decide +kernel
theorem kd_M_workOut_37 : decode kc_M_workOut 37 = .ok (.imul, 1) := by decide +kernel
theorem kd_M_workOut_38 : decode kc_M_workOut 38 = .ok (.iload 4, 2) := by decide +kernel
theorem kd_M_workOut_40 : decode kc_M_workOut 40 = .ok (.iadd, 1) := by decide +kernel
theorem kd_M_workOut_41 : decode kc_M_workOut 41 = .ok (.imul, 1) := by decide +kernel
