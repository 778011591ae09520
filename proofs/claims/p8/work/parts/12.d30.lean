abbrev kc_M_spread : ByteArray := prog_11_method_34_code
def ky_M_spread : MethodName := ({ cls := "BorderDeskModel", name := "spread", desc := "(II)V" } : Jvm.MethodName)
abbrev kc_M_value : ByteArray := prog_11_method_35_code
def ky_M_value : MethodName := ({ cls := "BorderDeskModel", name := "value", desc := "(I)V" } : Jvm.MethodName)
abbrev kc_M_find : ByteArray := prog_11_method_36_code
def ky_M_find : MethodName := ({ cls := "BorderDeskModel", name := "find", desc := "(I)Z" } : Jvm.MethodName)
abbrev kc_M_dutyOf : ByteArray := prog_11_method_37_code
def ky_M_dutyOf : MethodName := ({ cls := "BorderDeskModel", name := "dutyOf", desc := "(II)J" } : Jvm.MethodName)
abbrev kc_M_workOut : ByteArray := prog_11_method_38_code
def ky_M_workOut : MethodName := ({ cls := "BorderDeskModel", name := "workOut", desc := "(I)J" } : Jvm.MethodName)
abbrev kc_M_mean : ByteArray := prog_11_method_39_code
def ky_M_mean : MethodName := ({ cls := "BorderDeskModel", name := "mean", desc := "()V" } : Jvm.MethodName)
abbrev kc_M_assess : ByteArray := prog_11_method_40_code
def ky_M_assess : MethodName := ({ cls := "BorderDeskModel", name := "assess", desc := "(I)J" } : Jvm.MethodName)
abbrev kc_M_book : ByteArray := prog_11_method_41_code
def ky_M_book : MethodName := ({ cls := "BorderDeskModel", name := "book", desc := "(I)V" } : Jvm.MethodName)
abbrev kc_M_lineOf : ByteArray := prog_11_method_42_code
def ky_M_lineOf : MethodName := ({ cls := "BorderDeskModel", name := "lineOf", desc := "(III)J" } : Jvm.MethodName)
abbrev kc_M_isLate : ByteArray := prog_11_method_43_code
def ky_M_isLate : MethodName := ({ cls := "BorderDeskModel", name := "isLate", desc := "(I)Z" } : Jvm.MethodName)
abbrev kc_M_addLot : ByteArray := prog_11_method_44_code
def ky_M_addLot : MethodName := ({ cls := "BorderDeskModel", name := "addLot", desc := "(IIJZZ)I" } : Jvm.MethodName)
theorem kd_M_spread_0 : decode kc_M_spread 0 = .ok (.lconst 0, 1) := by decide +kernel
theorem kd_M_spread_1 : decode kc_M_spread 1 = .ok (.lstore_n 3, 1) := by decide +kernel
theorem kd_M_spread_2 : decode kc_M_spread 2 = .ok (.iconst 0, 1) := by decide +kernel
theorem kd_M_spread_3 : decode kc_M_spread 3 = .ok (.istore 5, 2) := by decide +kernel
theorem kd_M_spread_5 : decode kc_M_spread 5 = .ok (.iload 5, 2) := by decide +kernel
theorem kd_M_spread_7 : decode kc_M_spread 7 = .ok (.aload_n 0, 1) := by decide +kernel
theorem kd_M_spread_8 : decode kc_M_spread 8 = .ok (.getfield 107, 3) := by decide +kernel
theorem kd_M_spread_11 : decode kc_M_spread 11 = .ok (.iload_n 1, 1) := by decide +kernel
theorem kd_M_spread_12 : decode kc_M_spread 12 = .ok (.iaload, 1) := by decide +kernel
theorem kd_M_spread_13 : decode kc_M_spread 13 = .ok (.if_icmp .ge 30, 3) := by decide +kernel
theorem kd_M_spread_16 : decode kc_M_spread 16 = .ok (.lload_n 3, 1) := by decide +kernel
theorem kd_M_spread_17 : decode kc_M_spread 17 = .ok (.aload_n 0, 1) := by decide +kernel
theorem kd_M_spread_18 : decode kc_M_spread 18 = .ok (.getfield 129, 3) := by decide +kernel
theorem kd_M_spread_21 : decode kc_M_spread 21 = .ok (.iconst 3, 1) := by decide +kernel
theorem kd_M_spread_22 : decode kc_M_spread 22 = .ok (.iconst 4, 1) := by decide +kernel
theorem kd_M_spread_23 : decode kc_M_spread 23 = .ok (.iload_n 1, 1) := by decide +kernel
theorem kd_M_spread_24 : decode kc_M_spread 24 = .ok (.imul, 1) := by decide +kernel
theorem kd_M_spread_25 : decode kc_M_spread 25 = .ok (.iload 5, 2) := by decide +kernel
theorem kd_M_spread_27 : decode kc_M_spread 27 = .ok (.iadd, 1) := by decide +kernel
theorem kd_M_spread_28 : decode kc_M_spread 28 = .ok (.imul, 1) := by decide +kernel
theorem kd_M_spread_29 : decode kc_M_spread 29 = .ok (.iconst 1, 1) := by decide +kernel
theorem kd_M_spread_30 : decode kc_M_spread 30 = .ok (.iadd, 1) := by decide +kernel
theorem kd_M_spread_31 : decode kc_M_spread 31 = .ok (.iload_n 2, 1) := by decide +kernel
theorem kd_M_spread_32 : decode kc_M_spread 32 = .ok (.iadd, 1) := by decide +kernel
theorem kd_M_spread_33 : decode kc_M_spread 33 = .ok (.iaload, 1) := by decide +kernel
theorem kd_M_spread_34 : decode kc_M_spread 34 = .ok (.i2l, 1) := by decide +kernel
theorem kd_M_spread_35 : decode kc_M_spread 35 = .ok (.ladd, 1) := by decide +kernel
theorem kd_M_spread_36 : decode kc_M_spread 36 = .ok (.lstore_n 3, 1) := by decide +kernel
theorem kd_M_spread_37 : decode kc_M_spread 37 = .ok (.iinc 5 1, 3) := by decide +kernel
theorem kd_M_spread_40 : decode kc_M_spread 40 = .ok (.goto (-35), 3) := by decide +kernel
theorem kd_M_spread_43 : decode kc_M_spread 43 = .ok (.lload_n 3, 1) := by decide +kernel
theorem kd_M_spread_44 : decode kc_M_spread 44 = .ok (.lconst 0, 1) := by decide +kernel
theorem kd_M_spread_45 : decode kc_M_spread 45 = .ok (.lcmp, 1) := by decide +kernel
theorem kd_M_spread_46 : decode kc_M_spread 46 = .ok (.ifCond .ne 7, 3) := by decide +kernel
theorem kd_M_spread_49 : decode kc_M_spread 49 = .ok (.iconst 1, 1) := by decide +kernel
theorem kd_M_spread_50 : decode kc_M_spread 50 = .ok (.goto 4, 3) := by decide +kernel
theorem kd_M_spread_53 : decode kc_M_spread 53 = .ok (.iconst 0, 1) := by decide +kernel
theorem kd_M_spread_54 : decode kc_M_spread 54 = .ok (.istore 5, 2) := by decide +kernel
theorem kd_M_spread_56 : decode kc_M_spread 56 = .ok (.iload 5, 2) := by decide +kernel
theorem kd_M_spread_58 : decode kc_M_spread 58 = .ok (.ifCond .eq 13, 3) := by decide +kernel
theorem kd_M_spread_61 : decode kc_M_spread 61 = .ok (.aload_n 0, 1) := by decide +kernel
theorem kd_M_spread_62 : decode kc_M_spread 62 = .ok (.getfield 107, 3) := by decide +kernel
theorem kd_M_spread_65 : decode kc_M_spread 65 = .ok (.iload_n 1, 1) := by decide +kernel
theorem kd_M_spread_66 : decode kc_M_spread 66 = .ok (.iaload, 1) := by decide +kernel
theorem kd_M_spread_67 : decode kc_M_spread 67 = .ok (.i2l, 1) := by decide +kernel
theorem kd_M_spread_68 : decode kc_M_spread 68 = .ok (.goto 4, 3) := by decide +kernel
theorem kd_M_spread_71 : decode kc_M_spread 71 = .ok (.lload_n 3, 1) := by decide +kernel
theorem kd_M_spread_72 : decode kc_M_spread 72 = .ok (.lstore_n 3, 1) := by decide +kernel
theorem kd_M_spread_73 : decode kc_M_spread 73 = .ok (.aload_n 0, 1) := by decide +kernel
theorem kd_M_spread_74 : decode kc_M_spread 74 = .ok (.getfield 110, 3) := by decide +kernel
theorem kd_M_spread_77 : decode kc_M_spread 77 = .ok (.iconst 2, 1) := by decide +kernel
theorem kd_M_spread_78 : decode kc_M_spread 78 = .ok (.iload_n 1, 1) := by decide +kernel
theorem kd_M_spread_79 : decode kc_M_spread 79 = .ok (.imul, 1) := by decide +kernel
theorem kd_M_spread_80 : decode kc_M_spread 80 = .ok (.iload_n 2, 1) := by decide +kernel
theorem kd_M_spread_81 : decode kc_M_spread 81 = .ok (.iadd, 1) := by decide +kernel
theorem kd_M_spread_82 : decode kc_M_spread 82 = .ok (.iaload, 1) := by decide +kernel
theorem kd_M_spread_83 : decode kc_M_spread 83 = .ok (.istore 6, 2) := by decide +kernel
theorem kd_M_spread_85 : decode kc_M_spread 85 = .ok (.iconst 0, 1) := by decide +kernel
theorem kd_M_spread_86 : decode kc_M_spread 86 = .ok (.istore 7, 2) := by decide +kernel
theorem kd_M_spread_88 : decode kc_M_spread 88 = .ok (.iload 7, 2) := by decide +kernel
theorem kd_M_spread_90 : decode kc_M_spread 90 = .ok (.aload_n 0, 1) := by decide +kernel
theorem kd_M_spread_91 : decode kc_M_spread 91 = .ok (.getfield 107, 3) := by decide +kernel
theorem kd_M_spread_94 : decode kc_M_spread 94 = .ok (.iload_n 1, 1) := by decide +kernel
theorem kd_M_spread_95 : decode kc_M_spread 95 = .ok (.iaload, 1) := by decide +kernel
theorem kd_M_spread_96 : decode kc_M_spread 96 = .ok (.if_icmp .ge 98, 3) := by decide +kernel
theorem kd_M_spread_99 : decode kc_M_spread 99 = .ok (.aload_n 0, 1) := by decide +kernel
theorem kd_M_spread_100 : decode kc_M_spread 100 = .ok (.getfield 110, 3) := by decide +kernel
theorem kd_M_spread_103 : decode kc_M_spread 103 = .ok (.iconst 2, 1) := by decide +kernel
theorem kd_M_spread_104 : decode kc_M_spread 104 = .ok (.iload_n 1, 1) := by decide +kernel
theorem kd_M_spread_105 : decode kc_M_spread 105 = .ok (.imul, 1) := by decide +kernel
theorem kd_M_spread_106 : decode kc_M_spread 106 = .ok (.iload_n 2, 1) := by decide +kernel
theorem kd_M_spread_107 : decode kc_M_spread 107 = .ok (.iadd, 1) := by decide +kernel
theorem kd_M_spread_108 : decode kc_M_spread 108 = .ok (.iaload, 1) := by decide +kernel
theorem kd_M_spread_109 : decode kc_M_spread 109 = .ok (.i2l, 1) := by decide +kernel
theorem kd_M_spread_110 : decode kc_M_spread 110 = .ok (.iload 5, 2) := by decide +kernel
theorem kd_M_spread_112 : decode kc_M_spread 112 = .ok (.ifCond .eq 7, 3) := by decide +kernel
theorem kd_M_spread_115 : decode kc_M_spread 115 = .ok (.lconst 1, 1) := by decide +kernel
theorem kd_M_spread_116 : decode kc_M_spread 116 = .ok (.goto 21, 3) := by decide +kernel
theorem kd_M_spread_119 : decode kc_M_spread 119 = .ok (.aload_n 0, 1) := by decide +kernel
theorem kd_M_spread_120 : decode kc_M_spread 120 = .ok (.getfield 129, 3) := by decide +kernel
theorem kd_M_spread_123 : decode kc_M_spread 123 = .ok (.iconst 3, 1) := by decide +kernel
theorem kd_M_spread_124 : decode kc_M_spread 124 = .ok (.iconst 4, 1) := by decide +kernel
theorem kd_M_spread_125 : decode kc_M_spread 125 = .ok (.iload_n 1, 1) := by decide +kernel
theorem kd_M_spread_126 : decode kc_M_spread 126 = .ok (.imul, 1) := by decide +kernel
theorem kd_M_spread_127 : decode kc_M_spread 127 = .ok (.iload 7, 2) := by decide +kernel
theorem kd_M_spread_129 : decode kc_M_spread 129 = .ok (.iadd, 1) := by decide +kernel
theorem kd_M_spread_130 : decode kc_M_spread 130 = .ok (.imul, 1) := by decide +kernel
theorem kd_M_spread_131 : decode kc_M_spread 131 = .ok (.iconst 1, 1) := by decide +kernel
theorem kd_M_spread_132 : decode kc_M_spread 132 = .ok (.iadd, 1) := by decide +kernel
theorem kd_M_spread_133 : decode kc_M_spread 133 = .ok (.iload_n 2, 1) := by decide +kernel
theorem kd_M_spread_134 : decode kc_M_spread 134 = .ok (.iadd, 1) := by decide +kernel
theorem kd_M_spread_135 : decode kc_M_spread 135 = .ok (.iaload, 1) := by decide +kernel
theorem kd_M_spread_136 : decode kc_M_spread 136 = .ok (.i2l, 1) := by decide +kernel
theorem kd_M_spread_137 : decode kc_M_spread 137 = .ok (.lmul, 1) := by decide +kernel
theorem kd_M_spread_138 : decode kc_M_spread 138 = .ok (.lstore 8, 2) := by decide +kernel
theorem kd_M_spread_140 : decode kc_M_spread 140 = .ok (.aload_n 0, 1) := by decide +kernel
theorem kd_M_spread_141 : decode kc_M_spread 141 = .ok (.getfield 132, 3) := by decide +kernel
theorem kd_M_spread_144 : decode kc_M_spread 144 = .ok (.iconst 4, 1) := by decide +kernel
theorem kd_M_spread_145 : decode kc_M_spread 145 = .ok (.iload_n 1, 1) := by decide +kernel
theorem kd_M_spread_146 : decode kc_M_spread 146 = .ok (.imul, 1) := by decide +kernel
theorem kd_M_spread_147 : decode kc_M_spread 147 = .ok (.iload 7, 2) := by decide +kernel
theorem kd_M_spread_149 : decode kc_M_spread 149 = .ok (.iadd, 1) := by decide +kernel
theorem kd_M_spread_150 : decode kc_M_spread 150 = .ok (.aload_n 0, 1) := by decide +kernel
theorem kd_M_spread_151 : decode kc_M_spread 151 = .ok (.getfield 132, 3) := by decide +kernel
theorem kd_M_spread_154 : decode kc_M_spread 154 = .ok (.iconst 4, 1) := by decide +kernel
theorem kd_M_spread_155 : decode kc_M_spread 155 = .ok (.iload_n 1, 1) := by decide +kernel
theorem kd_M_spread_156 : decode kc_M_spread 156 = .ok (.imul, 1) := by decide +kernel
theorem kd_M_spread_157 : decode kc_M_spread 157 = .ok (.iload 7, 2) := by decide +kernel
theorem kd_M_spread_159 : decode kc_M_spread 159 = .ok (.iadd, 1) := by decide +kernel
theorem kd_M_spread_160 : decode kc_M_spread 160 = .ok (.laload, 1) := by decide +kernel
theorem kd_M_spread_161 : decode kc_M_spread 161 = .ok (.lload 8, 2) := by decide +kernel
theorem kd_M_spread_163 : decode kc_M_spread 163 = .ok (.lload_n 3, 1) := by decide +kernel
theorem kd_M_spread_164 : decode kc_M_spread 164 = .ok (.ldiv, 1) := by decide +kernel
theorem kd_M_spread_165 : decode kc_M_spread 165 = .ok (.ladd, 1) := by decide +kernel
theorem kd_M_spread_166 : decode kc_M_spread 166 = .ok (.lastore, 1) := by decide +kernel
theorem kd_M_spread_167 : decode kc_M_spread 167 = .ok (.aload_n 0, 1) := by decide +kernel
theorem kd_M_spread_168 : decode kc_M_spread 168 = .ok (.getfield 136, 3) := by decide +kernel
theorem kd_M_spread_171 : decode kc_M_spread 171 = .ok (.iload 7, 2) := by decide +kernel
theorem kd_M_spread_173 : decode kc_M_spread 173 = .ok (.lload 8, 2) := by decide +kernel
theorem kd_M_spread_175 : decode kc_M_spread 175 = .ok (.lload_n 3, 1) := by decide +kernel
theorem kd_M_spread_176 : decode kc_M_spread 176 = .ok (.lrem, 1) := by decide +kernel
theorem kd_M_spread_177 : decode kc_M_spread 177 = .ok (.lastore, 1) := by decide +kernel
theorem kd_M_spread_178 : decode kc_M_spread 178 = .ok (.iload 6, 2) := by decide +kernel
theorem kd_M_spread_180 : decode kc_M_spread 180 = .ok (.lload 8, 2) := by decide +kernel
theorem kd_M_spread_182 : decode kc_M_spread 182 = .ok (.lload_n 3, 1) := by decide +kernel
theorem kd_M_spread_183 : decode kc_M_spread 183 = .ok (.ldiv, 1) := by decide +kernel
theorem kd_M_spread_184 : decode kc_M_spread 184 = .ok (.l2i, 1) := by decide +kernel
theorem kd_M_spread_185 : decode kc_M_spread 185 = .ok (.isub, 1) := by decide +kernel
theorem kd_M_spread_186 : decode kc_M_spread 186 = .ok (.istore 6, 2) := by decide +kernel
theorem kd_M_spread_188 : decode kc_M_spread 188 = .ok (.iinc 7 1, 3) := by decide +kernel
theorem kd_M_spread_191 : decode kc_M_spread 191 = .ok (.goto (-103), 3) := by decide +kernel
theorem kd_M_spread_194 : decode kc_M_spread 194 = .ok (.iload 6, 2) := by decide +kernel
theorem kd_M_spread_196 : decode kc_M_spread 196 = .ok (.ifCond .le 84, 3) := by decide +kernel
theorem kd_M_spread_199 : decode kc_M_spread 199 = .ok (.iconst 0, 1) := by decide +kernel
theorem kd_M_spread_200 : decode kc_M_spread 200 = .ok (.istore 7, 2) := by decide +kernel
theorem kd_M_spread_202 : decode kc_M_spread 202 = .ok (.iconst 0, 1) := by decide +kernel
theorem kd_M_spread_203 : decode kc_M_spread 203 = .ok (.istore 8, 2) := by decide +kernel
theorem kd_M_spread_205 : decode kc_M_spread 205 = .ok (.iload 8, 2) := by decide +kernel
theorem kd_M_spread_207 : decode kc_M_spread 207 = .ok (.aload_n 0, 1) := by decide +kernel
theorem kd_M_spread_208 : decode kc_M_spread 208 = .ok (.getfield 107, 3) := by decide +kernel
theorem kd_M_spread_211 : decode kc_M_spread 211 = .ok (.iload_n 1, 1) := by decide +kernel
theorem kd_M_spread_212 : decode kc_M_spread 212 = .ok (.iaload, 1) := by decide +kernel
theorem kd_M_spread_213 : decode kc_M_spread 213 = .ok (.if_icmp .ge 36, 3) := by decide +kernel
theorem kd_M_spread_216 : decode kc_M_spread 216 = .ok (.aload_n 0, 1) := by decide +kernel
theorem kd_M_spread_217 : decode kc_M_spread 217 = .ok (.getfield 136, 3) := by decide +kernel
theorem kd_M_spread_220 : decode kc_M_spread 220 = .ok (.iload 8, 2) := by decide +kernel
theorem kd_M_spread_222 : decode kc_M_spread 222 = .ok (.laload, 1) := by decide +kernel
theorem kd_M_spread_223 : decode kc_M_spread 223 = .ok (.aload_n 0, 1) := by decide +kernel
theorem kd_M_spread_224 : decode kc_M_spread 224 = .ok (.getfield 136, 3) := by decide +kernel
theorem kd_M_spread_227 : decode kc_M_spread 227 = .ok (.iload 7, 2) := by decide +kernel
theorem kd_M_spread_229 : decode kc_M_spread 229 = .ok (.laload, 1) := by decide +kernel
theorem kd_M_spread_230 : decode kc_M_spread 230 = .ok (.lcmp, 1) := by decide +kernel
theorem kd_M_spread_231 : decode kc_M_spread 231 = .ok (.ifCond .le 8, 3) := by decide +kernel
theorem kd_M_spread_234 : decode kc_M_spread 234 = .ok (.iload 8, 2) := by decide +kernel
theorem kd_M_spread_236 : decode kc_M_spread 236 = .ok (.goto 5, 3) := by decide +kernel
theorem kd_M_spread_239 : decode kc_M_spread 239 = .ok (.iload 7, 2) := by decide +kernel
theorem kd_M_spread_241 : decode kc_M_spread 241 = .ok (.istore 7, 2) := by decide +kernel
theorem kd_M_spread_243 : decode kc_M_spread 243 = .ok (.iinc 8 1, 3) := by decide +kernel
theorem kd_M_spread_246 : decode kc_M_spread 246 = .ok (.goto (-41), 3) := by decide +kernel
theorem kd_M_spread_249 : decode kc_M_spread 249 = .ok (.aload_n 0, 1) := by decide +kernel
theorem kd_M_spread_250 : decode kc_M_spread 250 = .ok (.getfield 132, 3) := by decide +kernel
theorem kd_M_spread_253 : decode kc_M_spread 253 = .ok (.iconst 4, 1) := by decide +kernel
theorem kd_M_spread_254 : decode kc_M_spread 254 = .ok (.iload_n 1, 1) := by decide +kernel
theorem kd_M_spread_255 : decode kc_M_spread 255 = .ok (.imul, 1) := by decide +kernel
theorem kd_M_spread_256 : decode kc_M_spread 256 = .ok (.iload 7, 2) := by decide +kernel
theorem kd_M_spread_258 : decode kc_M_spread 258 = .ok (.iadd, 1) := by decide +kernel
theorem kd_M_spread_259 : decode kc_M_spread 259 = .ok (.dup2, 1) := by decide +kernel
theorem kd_M_spread_260 : decode kc_M_spread 260 = .ok (.laload, 1) := by decide +kernel
theorem kd_M_spread_261 : decode kc_M_spread 261 = .ok (.lconst 1, 1) := by decide +kernel
theorem kd_M_spread_262 : decode kc_M_spread 262 = .ok (.ladd, 1) := by decide +kernel
theorem kd_M_spread_263 : decode kc_M_spread 263 = .ok (.lastore, 1) := by decide +kernel
theorem kd_M_spread_264 : decode kc_M_spread 264 = .ok (.aload_n 0, 1) := by decide +kernel
theorem kd_M_spread_265 : decode kc_M_spread 265 = .ok (.getfield 136, 3) := by decide +kernel
theorem kd_M_spread_268 : decode kc_M_spread 268 = .ok (.iload 7, 2) := by decide +kernel
theorem kd_M_spread_270 : decode kc_M_spread 270 = .ok (.ldc2_w 262, 3) := by decide +kernel
theorem kd_M_spread_273 : decode kc_M_spread 273 = .ok (.lastore, 1) := by decide +kernel
theorem kd_M_spread_274 : decode kc_M_spread 274 = .ok (.iinc 6 (-1), 3) := by decide +kernel
theorem kd_M_spread_277 : decode kc_M_spread 277 = .ok (.goto (-83), 3) := by decide +kernel
theorem kd_M_spread_280 : decode kc_M_spread 280 = .ok (.return_, 1) := by decide +kernel
theorem kd_M_value_0 : decode kc_M_value 0 = .ok (.iconst 4, 1) := by decide +kernel
theorem kd_M_value_1 : decode kc_M_value 1 = .ok (.iload_n 1, 1) := by decide +kernel
theorem kd_M_value_2 : decode kc_M_value 2 = .ok (.imul, 1) := by decide +kernel
theorem kd_M_value_3 : decode kc_M_value 3 = .ok (.istore_n 2, 1) := by decide +kernel
theorem kd_M_value_4 : decode kc_M_value 4 = .ok (.iload_n 2, 1) := by decide +kernel
theorem kd_M_value_5 : decode kc_M_value 5 = .ok (.iconst 4, 1) := by decide +kernel
theorem kd_M_value_6 : decode kc_M_value 6 = .ok (.iload_n 1, 1) := by decide +kernel
theorem kd_M_value_7 : decode kc_M_value 7 = .ok (.imul, 1) := by decide +kernel
theorem kd_M_value_8 : decode kc_M_value 8 = .ok (.aload_n 0, 1) := by decide +kernel
theorem kd_M_value_9 : decode kc_M_value 9 = .ok (.getfield 107, 3) := by decide +kernel
theorem kd_M_value_12 : decode kc_M_value 12 = .ok (.iload_n 1, 1) := by decide +kernel
theorem kd_M_value_13 : decode kc_M_value 13 = .ok (.iaload, 1) := by decide +kernel
theorem kd_M_value_14 : decode kc_M_value 14 = .ok (.iadd, 1) := by decide +kernel
theorem kd_M_value_15 : decode kc_M_value 15 = .ok (.if_icmp .ge 26, 3) := by decide +kernel
theorem kd_M_value_18 : decode kc_M_value 18 = .ok (.aload_n 0, 1) := by decide +kernel
theorem kd_M_value_19 : decode kc_M_value 19 = .ok (.getfield 132, 3) := by decide +kernel
theorem kd_M_value_22 : decode kc_M_value 22 = .ok (.iload_n 2, 1) := by decide +kernel
theorem kd_M_value_23 : decode kc_M_value 23 = .ok (.aload_n 0, 1) := by decide +kernel
theorem kd_M_value_24 : decode kc_M_value 24 = .ok (.getfield 129, 3) := by decide +kernel
theorem kd_M_value_27 : decode kc_M_value 27 = .ok (.iconst 3, 1) := by decide +kernel
theorem kd_M_value_28 : decode kc_M_value 28 = .ok (.iload_n 2, 1) := by decide +kernel
theorem kd_M_value_29 : decode kc_M_value 29 = .ok (.imul, 1) := by decide +kernel
theorem kd_M_value_30 : decode kc_M_value 30 = .ok (.iconst 2, 1) := by decide +kernel
theorem kd_M_value_31 : decode kc_M_value 31 = .ok (.iadd, 1) := by decide +kernel
theorem kd_M_value_32 : decode kc_M_value 32 = .ok (.iaload, 1) := by decide +kernel
theorem kd_M_value_33 : decode kc_M_value 33 = .ok (.i2l, 1) := by decide +kernel
theorem kd_M_value_34 : decode kc_M_value 34 = .ok (.lastore, 1) := by decide +kernel
theorem kd_M_value_35 : decode kc_M_value 35 = .ok (.iinc 2 1, 3) := by decide +kernel
theorem kd_M_value_38 : decode kc_M_value 38 = .ok (.goto (-34), 3) := by decide +kernel
theorem kd_M_value_41 : decode kc_M_value 41 = .ok (.aload_n 0, 1) := by decide +kernel
theorem kd_M_value_42 : decode kc_M_value 42 = .ok (.getfield 107, 3) := by decide +kernel
theorem kd_M_value_45 : decode kc_M_value 45 = .ok (.iload_n 1, 1) := by decide +kernel
theorem kd_M_value_46 : decode kc_M_value 46 = .ok (.iaload, 1) := by decide +kernel
theorem kd_M_value_47 : decode kc_M_value 47 = .ok (.ifCond .le 15, 3) := by decide +kernel
theorem kd_M_value_50 : decode kc_M_value 50 = .ok (.aload_n 0, 1) := by decide +kernel
theorem kd_M_value_51 : decode kc_M_value 51 = .ok (.iload_n 1, 1) := by decide +kernel
theorem kd_M_value_52 : decode kc_M_value 52 = .ok (.iconst 0, 1) := by decide +kernel
theorem kd_M_value_53 : decode kc_M_value 53 = .ok (.invokevirtual 264, 3) := by decide +kernel
theorem kd_M_value_56 : decode kc_M_value 56 = .ok (.aload_n 0, 1) := by decide +kernel
theorem kd_M_value_57 : decode kc_M_value 57 = .ok (.iload_n 1, 1) := by decide +kernel
theorem kd_M_value_58 : decode kc_M_value 58 = .ok (.iconst 1, 1) := by decide +kernel
theorem kd_M_value_59 : decode kc_M_value 59 = .ok (.invokevirtual 264, 3) := by decide +kernel
theorem kd_M_value_62 : decode kc_M_value 62 = .ok (.return_, 1) := by decide +kernel
theorem kd_M_find_0 : decode kc_M_find 0 = .ok (.aload_n 0, 1) := by decide +kernel
theorem kd_M_find_1 : decode kc_M_find 1 = .ok (.getfield 107, 3) := by decide +kernel
theorem kd_M_find_4 : decode kc_M_find 4 = .ok (.iload_n 1, 1) := by decide +kernel
theorem kd_M_find_5 : decode kc_M_find 5 = .ok (.iaload, 1) := by decide +kernel
theorem kd_M_find_6 : decode kc_M_find 6 = .ok (.ifCond .le 7, 3) := by decide +kernel
theorem kd_M_find_9 : decode kc_M_find 9 = .ok (.iconst 1, 1) := by decide +kernel
