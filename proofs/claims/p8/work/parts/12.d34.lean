abbrev kc_M_accept : ByteArray := prog_11_method_45_code
def ky_M_accept : MethodName := ({ cls := "BorderDeskModel", name := "accept", desc := "(I)J" } : Jvm.MethodName)
abbrev kc_M_isWhole : ByteArray := prog_11_method_46_code
def ky_M_isWhole : MethodName := ({ cls := "BorderDeskModel", name := "isWhole", desc := "(I)Z" } : Jvm.MethodName)
abbrev kc_M_amend : ByteArray := prog_11_method_47_code
def ky_M_amend : MethodName := ({ cls := "BorderDeskModel", name := "amend", desc := "(IIII)J" } : Jvm.MethodName)
abbrev kc_M_left : ByteArray := prog_11_method_48_code
def ky_M_left : MethodName := ({ cls := "BorderDeskModel", name := "left", desc := "(IZ)I" } : Jvm.MethodName)
abbrev kc_M_take : ByteArray := prog_11_method_49_code
def ky_M_take : MethodName := ({ cls := "BorderDeskModel", name := "take", desc := "(IIZ)J" } : Jvm.MethodName)
abbrev kc_M_release : ByteArray := prog_11_method_50_code
def ky_M_release : MethodName := ({ cls := "BorderDeskModel", name := "release", desc := "(II)J" } : Jvm.MethodName)
abbrev kc_M_export : ByteArray := prog_11_method_51_code
def ky_M_export : MethodName := ({ cls := "BorderDeskModel", name := "export", desc := "(II)J" } : Jvm.MethodName)
abbrev kc_M_work : ByteArray := prog_11_method_52_code
def ky_M_work : MethodName := ({ cls := "BorderDeskModel", name := "work", desc := "(IIII)I" } : Jvm.MethodName)
abbrev kc_M_lot : ByteArray := prog_11_method_53_code
def ky_M_lot : MethodName := ({ cls := "BorderDeskModel", name := "lot", desc := "(II)J" } : Jvm.MethodName)
abbrev kc_M_came : ByteArray := prog_11_method_54_code
def ky_M_came : MethodName := ({ cls := "BorderDeskModel", name := "came", desc := "(IZ)I" } : Jvm.MethodName)
abbrev kc_M_account : ByteArray := prog_11_method_55_code
def ky_M_account : MethodName := ({ cls := "BorderDeskModel", name := "account", desc := "(II)J" } : Jvm.MethodName)
abbrev kc_M_books : ByteArray := prog_11_method_56_code
def ky_M_books : MethodName := ({ cls := "BorderDeskModel", name := "books", desc := "(I)J" } : Jvm.MethodName)
theorem kd_M_accept_0 : decode kc_M_accept 0 = .ok (.aload_n 0, 1) := by decide +kernel
theorem kd_M_accept_1 : decode kc_M_accept 1 = .ok (.aload_n 0, 1) := by decide +kernel
theorem kd_M_accept_2 : decode kc_M_accept 2 = .ok (.iload_n 1, 1) := by decide +kernel
theorem kd_M_accept_3 : decode kc_M_accept 3 = .ok (.invokevirtual 254, 3) := by decide +kernel
theorem kd_M_accept_6 : decode kc_M_accept 6 = .ok (.ifCond .ne 7, 3) := by decide +kernel
theorem kd_M_accept_9 : decode kc_M_accept 9 = .ok (.iconst 1, 1) := by decide +kernel
theorem kd_M_accept_10 : decode kc_M_accept 10 = .ok (.goto 57, 3) := by decide +kernel
theorem kd_M_accept_13 : decode kc_M_accept 13 = .ok (.aload_n 0, 1) := by decide +kernel
theorem kd_M_accept_14 : decode kc_M_accept 14 = .ok (.getfield 113, 3) := by decide +kernel
theorem kd_M_accept_17 : decode kc_M_accept 17 = .ok (.iload_n 1, 1) := by decide +kernel
theorem kd_M_accept_18 : decode kc_M_accept 18 = .ok (.baload, 1) := by decide +kernel
theorem kd_M_accept_19 : decode kc_M_accept 19 = .ok (.ifCond .ne 11, 3) := by decide +kernel
theorem kd_M_accept_22 : decode kc_M_accept 22 = .ok (.aload_n 0, 1) := by decide +kernel
theorem kd_M_accept_23 : decode kc_M_accept 23 = .ok (.iload_n 1, 1) := by decide +kernel
theorem kd_M_accept_24 : decode kc_M_accept 24 = .ok (.invokevirtual 302, 3) := by decide +kernel
theorem kd_M_accept_27 : decode kc_M_accept 27 = .ok (.ifCond .eq 7, 3) := by decide +kernel
theorem kd_M_accept_30 : decode kc_M_accept 30 = .ok (.iconst 2, 1) := by decide +kernel
theorem kd_M_accept_31 : decode kc_M_accept 31 = .ok (.goto 36, 3) := by decide +kernel
theorem kd_M_accept_34 : decode kc_M_accept 34 = .ok (.aload_n 0, 1) := by decide +kernel
theorem kd_M_accept_35 : decode kc_M_accept 35 = .ok (.iload_n 1, 1) := by decide +kernel
theorem kd_M_accept_36 : decode kc_M_accept 36 = .ok (.invokevirtual 293, 3) := by decide +kernel
theorem kd_M_accept_39 : decode kc_M_accept 39 = .ok (.ifCond .ne 7, 3) := by decide +kernel
theorem kd_M_accept_42 : decode kc_M_accept 42 = .ok (.iconst 3, 1) := by decide +kernel
theorem kd_M_accept_43 : decode kc_M_accept 43 = .ok (.goto 24, 3) := by decide +kernel
theorem kd_M_accept_46 : decode kc_M_accept 46 = .ok (.aload_n 0, 1) := by decide +kernel
theorem kd_M_accept_47 : decode kc_M_accept 47 = .ok (.getfield 299, 3) := by decide +kernel
theorem kd_M_accept_50 : decode kc_M_accept 50 = .ok (.aload_n 0, 1) := by decide +kernel
theorem kd_M_accept_51 : decode kc_M_accept 51 = .ok (.getfield 107, 3) := by decide +kernel
theorem kd_M_accept_54 : decode kc_M_accept 54 = .ok (.iload_n 1, 1) := by decide +kernel
theorem kd_M_accept_55 : decode kc_M_accept 55 = .ok (.iaload, 1) := by decide +kernel
theorem kd_M_accept_56 : decode kc_M_accept 56 = .ok (.iadd, 1) := by decide +kernel
theorem kd_M_accept_57 : decode kc_M_accept 57 = .ok (.bipush 40, 2) := by decide +kernel
theorem kd_M_accept_59 : decode kc_M_accept 59 = .ok (.if_icmp .le 7, 3) := by decide +kernel
theorem kd_M_accept_62 : decode kc_M_accept 62 = .ok (.iconst 4, 1) := by decide +kernel
theorem kd_M_accept_63 : decode kc_M_accept 63 = .ok (.goto 4, 3) := by decide +kernel
theorem kd_M_accept_66 : decode kc_M_accept 66 = .ok (.iconst 0, 1) := by decide +kernel
theorem kd_M_accept_67 : decode kc_M_accept 67 = .ok (.putfield 190, 3) := by decide +kernel
theorem kd_M_accept_70 : decode kc_M_accept 70 = .ok (.aload_n 0, 1) := by decide +kernel
theorem kd_M_accept_71 : decode kc_M_accept 71 = .ok (.getfield 190, 3) := by decide +kernel
theorem kd_M_accept_74 : decode kc_M_accept 74 = .ok (.ifCond .le 5, 3) := by decide +kernel
theorem kd_M_accept_77 : decode kc_M_accept 77 = .ok (.lconst 0, 1) := by decide +kernel
theorem kd_M_accept_78 : decode kc_M_accept 78 = .ok (.lreturn, 1) := by decide +kernel
theorem kd_M_accept_79 : decode kc_M_accept 79 = .ok (.aload_n 0, 1) := by decide +kernel
theorem kd_M_accept_80 : decode kc_M_accept 80 = .ok (.iload_n 1, 1) := by decide +kernel
theorem kd_M_accept_81 : decode kc_M_accept 81 = .ok (.invokevirtual 296, 3) := by decide +kernel
theorem kd_M_accept_84 : decode kc_M_accept 84 = .ok (.lstore_n 2, 1) := by decide +kernel
theorem kd_M_accept_85 : decode kc_M_accept 85 = .ok (.aload_n 0, 1) := by decide +kernel
theorem kd_M_accept_86 : decode kc_M_accept 86 = .ok (.iload_n 1, 1) := by decide +kernel
theorem kd_M_accept_87 : decode kc_M_accept 87 = .ok (.invokevirtual 305, 3) := by decide +kernel
theorem kd_M_accept_90 : decode kc_M_accept 90 = .ok (.iconst 4, 1) := by decide +kernel
theorem kd_M_accept_91 : decode kc_M_accept 91 = .ok (.iload_n 1, 1) := by decide +kernel
theorem kd_M_accept_92 : decode kc_M_accept 92 = .ok (.imul, 1) := by decide +kernel
theorem kd_M_accept_93 : decode kc_M_accept 93 = .ok (.istore 4, 2) := by decide +kernel
theorem kd_M_accept_95 : decode kc_M_accept 95 = .ok (.iload 4, 2) := by decide +kernel
theorem kd_M_accept_97 : decode kc_M_accept 97 = .ok (.iconst 4, 1) := by decide +kernel
theorem kd_M_accept_98 : decode kc_M_accept 98 = .ok (.iload_n 1, 1) := by decide +kernel
theorem kd_M_accept_99 : decode kc_M_accept 99 = .ok (.imul, 1) := by decide +kernel
theorem kd_M_accept_100 : decode kc_M_accept 100 = .ok (.aload_n 0, 1) := by decide +kernel
theorem kd_M_accept_101 : decode kc_M_accept 101 = .ok (.getfield 107, 3) := by decide +kernel
theorem kd_M_accept_104 : decode kc_M_accept 104 = .ok (.iload_n 1, 1) := by decide +kernel
theorem kd_M_accept_105 : decode kc_M_accept 105 = .ok (.iaload, 1) := by decide +kernel
theorem kd_M_accept_106 : decode kc_M_accept 106 = .ok (.iadd, 1) := by decide +kernel
theorem kd_M_accept_107 : decode kc_M_accept 107 = .ok (.if_icmp .ge 84, 3) := by decide +kernel
theorem kd_M_accept_110 : decode kc_M_accept 110 = .ok (.aload_n 0, 1) := by decide +kernel
theorem kd_M_accept_111 : decode kc_M_accept 111 = .ok (.getfield 139, 3) := by decide +kernel
theorem kd_M_accept_114 : decode kc_M_accept 114 = .ok (.iload 4, 2) := by decide +kernel
theorem kd_M_accept_116 : decode kc_M_accept 116 = .ok (.aload_n 0, 1) := by decide +kernel
theorem kd_M_accept_117 : decode kc_M_accept 117 = .ok (.aload_n 0, 1) := by decide +kernel
theorem kd_M_accept_118 : decode kc_M_accept 118 = .ok (.getfield 120, 3) := by decide +kernel
theorem kd_M_accept_121 : decode kc_M_accept 121 = .ok (.iload 4, 2) := by decide +kernel
theorem kd_M_accept_123 : decode kc_M_accept 123 = .ok (.iaload, 1) := by decide +kernel
theorem kd_M_accept_124 : decode kc_M_accept 124 = .ok (.aload_n 0, 1) := by decide +kernel
theorem kd_M_accept_125 : decode kc_M_accept 125 = .ok (.getfield 129, 3) := by decide +kernel
theorem kd_M_accept_128 : decode kc_M_accept 128 = .ok (.iconst 3, 1) := by decide +kernel
theorem kd_M_accept_129 : decode kc_M_accept 129 = .ok (.iload 4, 2) := by decide +kernel
theorem kd_M_accept_131 : decode kc_M_accept 131 = .ok (.imul, 1) := by decide +kernel
theorem kd_M_accept_132 : decode kc_M_accept 132 = .ok (.iaload, 1) := by decide +kernel
theorem kd_M_accept_133 : decode kc_M_accept 133 = .ok (.aload_n 0, 1) := by decide +kernel
theorem kd_M_accept_134 : decode kc_M_accept 134 = .ok (.getfield 148, 3) := by decide +kernel
theorem kd_M_accept_137 : decode kc_M_accept 137 = .ok (.iload 4, 2) := by decide +kernel
theorem kd_M_accept_139 : decode kc_M_accept 139 = .ok (.laload, 1) := by decide +kernel
theorem kd_M_accept_140 : decode kc_M_accept 140 = .ok (.aload_n 0, 1) := by decide +kernel
theorem kd_M_accept_141 : decode kc_M_accept 141 = .ok (.getfield 126, 3) := by decide +kernel
theorem kd_M_accept_144 : decode kc_M_accept 144 = .ok (.iload 4, 2) := by decide +kernel
theorem kd_M_accept_146 : decode kc_M_accept 146 = .ok (.baload, 1) := by decide +kernel
theorem kd_M_accept_147 : decode kc_M_accept 147 = .ok (.iconst 0, 1) := by decide +kernel
theorem kd_M_accept_148 : decode kc_M_accept 148 = .ok (.invokevirtual 308, 3) := by decide +kernel
theorem kd_M_accept_151 : decode kc_M_accept 151 = .ok (.iastore, 1) := by decide +kernel
theorem kd_M_accept_152 : decode kc_M_accept 152 = .ok (.aload_n 0, 1) := by decide +kernel
theorem kd_M_accept_153 : decode kc_M_accept 153 = .ok (.aload_n 0, 1) := by decide +kernel
theorem kd_M_accept_154 : decode kc_M_accept 154 = .ok (.getfield 126, 3) := by decide +kernel
theorem kd_M_accept_157 : decode kc_M_accept 157 = .ok (.iload 4, 2) := by decide +kernel
theorem kd_M_accept_159 : decode kc_M_accept 159 = .ok (.baload, 1) := by decide +kernel
theorem kd_M_accept_160 : decode kc_M_accept 160 = .ok (.ifCond .eq 10, 3) := by decide +kernel
theorem kd_M_accept_163 : decode kc_M_accept 163 = .ok (.aload_n 0, 1) := by decide +kernel
theorem kd_M_accept_164 : decode kc_M_accept 164 = .ok (.getfield 312, 3) := by decide +kernel
theorem kd_M_accept_167 : decode kc_M_accept 167 = .ok (.goto 15, 3) := by decide +kernel
theorem kd_M_accept_170 : decode kc_M_accept 170 = .ok (.aload_n 0, 1) := by decide +kernel
theorem kd_M_accept_171 : decode kc_M_accept 171 = .ok (.getfield 312, 3) := by decide +kernel
theorem kd_M_accept_174 : decode kc_M_accept 174 = .ok (.aload_n 0, 1) := by decide +kernel
theorem kd_M_accept_175 : decode kc_M_accept 175 = .ok (.getfield 148, 3) := by decide +kernel
theorem kd_M_accept_178 : decode kc_M_accept 178 = .ok (.iload 4, 2) := by decide +kernel
theorem kd_M_accept_180 : decode kc_M_accept 180 = .ok (.laload, 1) := by decide +kernel
theorem kd_M_accept_181 : decode kc_M_accept 181 = .ok (.ladd, 1) := by decide +kernel
theorem kd_M_accept_182 : decode kc_M_accept 182 = .ok (.putfield 312, 3) := by decide +kernel
theorem kd_M_accept_185 : decode kc_M_accept 185 = .ok (.iinc 4 1, 3) := by decide +kernel
theorem kd_M_accept_188 : decode kc_M_accept 188 = .ok (.goto (-93), 3) := by decide +kernel
theorem kd_M_accept_191 : decode kc_M_accept 191 = .ok (.aload_n 0, 1) := by decide +kernel
theorem kd_M_accept_192 : decode kc_M_accept 192 = .ok (.getfield 113, 3) := by decide +kernel
theorem kd_M_accept_195 : decode kc_M_accept 195 = .ok (.iload_n 1, 1) := by decide +kernel
theorem kd_M_accept_196 : decode kc_M_accept 196 = .ok (.iconst 1, 1) := by decide +kernel
theorem kd_M_accept_197 : decode kc_M_accept 197 = .ok (.bastore, 1) := by decide +kernel
theorem kd_M_accept_198 : decode kc_M_accept 198 = .ok (.aload_n 0, 1) := by decide +kernel
theorem kd_M_accept_199 : decode kc_M_accept 199 = .ok (.iload_n 1, 1) := by decide +kernel
theorem kd_M_accept_200 : decode kc_M_accept 200 = .ok (.putfield 116, 3) := by decide +kernel
theorem kd_M_accept_203 : decode kc_M_accept 203 = .ok (.lload_n 2, 1) := by decide +kernel
theorem kd_M_accept_204 : decode kc_M_accept 204 = .ok (.lreturn, 1) := by decide +kernel
theorem kd_M_isWhole_0 : decode kc_M_isWhole 0 = .ok (.aload_n 0, 1) := by decide +kernel
theorem kd_M_isWhole_1 : decode kc_M_isWhole 1 = .ok (.getfield 113, 3) := by decide +kernel
theorem kd_M_isWhole_4 : decode kc_M_isWhole 4 = .ok (.iload_n 1, 1) := by decide +kernel
theorem kd_M_isWhole_5 : decode kc_M_isWhole 5 = .ok (.baload, 1) := by decide +kernel
theorem kd_M_isWhole_6 : decode kc_M_isWhole 6 = .ok (.istore_n 2, 1) := by decide +kernel
theorem kd_M_isWhole_7 : decode kc_M_isWhole 7 = .ok (.iconst 4, 1) := by decide +kernel
theorem kd_M_isWhole_8 : decode kc_M_isWhole 8 = .ok (.iload_n 1, 1) := by decide +kernel
theorem kd_M_isWhole_9 : decode kc_M_isWhole 9 = .ok (.imul, 1) := by decide +kernel
theorem kd_M_isWhole_10 : decode kc_M_isWhole 10 = .ok (.istore_n 3, 1) := by decide +kernel
theorem kd_M_isWhole_11 : decode kc_M_isWhole 11 = .ok (.iload_n 3, 1) := by decide +kernel
theorem kd_M_isWhole_12 : decode kc_M_isWhole 12 = .ok (.iconst 4, 1) := by decide +kernel
theorem kd_M_isWhole_13 : decode kc_M_isWhole 13 = .ok (.iload_n 1, 1) := by decide +kernel
theorem kd_M_isWhole_14 : decode kc_M_isWhole 14 = .ok (.imul, 1) := by decide +kernel
theorem kd_M_isWhole_15 : decode kc_M_isWhole 15 = .ok (.aload_n 0, 1) := by decide +kernel
theorem kd_M_isWhole_16 : decode kc_M_isWhole 16 = .ok (.getfield 107, 3) := by decide +kernel
theorem kd_M_isWhole_19 : decode kc_M_isWhole 19 = .ok (.iload_n 1, 1) := by decide +kernel
theorem kd_M_isWhole_20 : decode kc_M_isWhole 20 = .ok (.iaload, 1) := by decide +kernel
theorem kd_M_isWhole_21 : decode kc_M_isWhole 21 = .ok (.iadd, 1) := by decide +kernel
theorem kd_M_isWhole_22 : decode kc_M_isWhole 22 = .ok (.if_icmp .ge 33, 3) := by decide +kernel
theorem kd_M_isWhole_25 : decode kc_M_isWhole 25 = .ok (.iload_n 2, 1) := by decide +kernel
theorem kd_M_isWhole_26 : decode kc_M_isWhole 26 = .ok (.ifCond .eq 21, 3) := by decide +kernel
theorem kd_M_isWhole_29 : decode kc_M_isWhole 29 = .ok (.aload_n 0, 1) := by decide +kernel
theorem kd_M_isWhole_30 : decode kc_M_isWhole 30 = .ok (.getfield 169, 3) := by decide +kernel
theorem kd_M_isWhole_33 : decode kc_M_isWhole 33 = .ok (.aload_n 0, 1) := by decide +kernel
theorem kd_M_isWhole_34 : decode kc_M_isWhole 34 = .ok (.getfield 139, 3) := by decide +kernel
theorem kd_M_isWhole_37 : decode kc_M_isWhole 37 = .ok (.iload_n 3, 1) := by decide +kernel
theorem kd_M_isWhole_38 : decode kc_M_isWhole 38 = .ok (.iaload, 1) := by decide +kernel
theorem kd_M_isWhole_39 : decode kc_M_isWhole 39 = .ok (.iaload, 1) := by decide +kernel
theorem kd_M_isWhole_40 : decode kc_M_isWhole 40 = .ok (.ifCond .ne 7, 3) := by decide +kernel
theorem kd_M_isWhole_43 : decode kc_M_isWhole 43 = .ok (.iconst 1, 1) := by decide +kernel
theorem kd_M_isWhole_44 : decode kc_M_isWhole 44 = .ok (.goto 4, 3) := by decide +kernel
theorem kd_M_isWhole_47 : decode kc_M_isWhole 47 = .ok (.iconst 0, 1) := by decide +kernel
theorem kd_M_isWhole_48 : decode kc_M_isWhole 48 = .ok (.istore_n 2, 1) := by decide +kernel
theorem kd_M_isWhole_49 : decode kc_M_isWhole 49 = .ok (.iinc 3 1, 3) := by decide +kernel
theorem kd_M_isWhole_52 : decode kc_M_isWhole 52 = .ok (.goto (-41), 3) := by decide +kernel
theorem kd_M_isWhole_55 : decode kc_M_isWhole 55 = .ok (.iload_n 2, 1) := by decide +kernel
theorem kd_M_isWhole_56 : decode kc_M_isWhole 56 = .ok (.ireturn, 1) := by decide +kernel
theorem kd_M_amend_0 : decode kc_M_amend 0 = .ok (.aload_n 0, 1) := by decide +kernel
theorem kd_M_amend_1 : decode kc_M_amend 1 = .ok (.aload_n 0, 1) := by decide +kernel
theorem kd_M_amend_2 : decode kc_M_amend 2 = .ok (.iload_n 1, 1) := by decide +kernel
theorem kd_M_amend_3 : decode kc_M_amend 3 = .ok (.iload_n 2, 1) := by decide +kernel
theorem kd_M_amend_4 : decode kc_M_amend 4 = .ok (.invokevirtual 290, 3) := by decide +kernel
theorem kd_M_amend_7 : decode kc_M_amend 7 = .ok (.ifCond .eq 21, 3) := by decide +kernel
theorem kd_M_amend_10 : decode kc_M_amend 10 = .ok (.iload_n 3, 1) := by decide +kernel
theorem kd_M_amend_11 : decode kc_M_amend 11 = .ok (.iconst 0, 1) := by decide +kernel
theorem kd_M_amend_12 : decode kc_M_amend 12 = .ok (.iconst 2, 1) := by decide +kernel
theorem kd_M_amend_13 : decode kc_M_amend 13 = .ok (.invokestatic 204, 3) := by decide +kernel
theorem kd_M_amend_16 : decode kc_M_amend 16 = .ok (.ifCond .eq 12, 3) := by decide +kernel
theorem kd_M_amend_19 : decode kc_M_amend 19 = .ok (.iload_n 3, 1) := by decide +kernel
theorem kd_M_amend_20 : decode kc_M_amend 20 = .ok (.iload 4, 2) := by decide +kernel
theorem kd_M_amend_22 : decode kc_M_amend 22 = .ok (.invokestatic 258, 3) := by decide +kernel
theorem kd_M_amend_25 : decode kc_M_amend 25 = .ok (.ifCond .ne 7, 3) := by decide +kernel
theorem kd_M_amend_28 : decode kc_M_amend 28 = .ok (.iconst 1, 1) := by decide +kernel
theorem kd_M_amend_29 : decode kc_M_amend 29 = .ok (.goto 28, 3) := by decide +kernel
theorem kd_M_amend_32 : decode kc_M_amend 32 = .ok (.aload_n 0, 1) := by decide +kernel
theorem kd_M_amend_33 : decode kc_M_amend 33 = .ok (.iload_n 1, 1) := by decide +kernel
theorem kd_M_amend_34 : decode kc_M_amend 34 = .ok (.invokevirtual 316, 3) := by decide +kernel
theorem kd_M_amend_37 : decode kc_M_amend 37 = .ok (.ifCond .ne 7, 3) := by decide +kernel
theorem kd_M_amend_40 : decode kc_M_amend 40 = .ok (.iconst 2, 1) := by decide +kernel
theorem kd_M_amend_41 : decode kc_M_amend 41 = .ok (.goto 16, 3) := by decide +kernel
theorem kd_M_amend_44 : decode kc_M_amend 44 = .ok (.aload_n 0, 1) := by decide +kernel
theorem kd_M_amend_45 : decode kc_M_amend 45 = .ok (.iload_n 1, 1) := by decide +kernel
theorem kd_M_amend_46 : decode kc_M_amend 46 = .ok (.invokevirtual 293, 3) := by decide +kernel
theorem kd_M_amend_49 : decode kc_M_amend 49 = .ok (.ifCond .ne 7, 3) := by decide +kernel
theorem kd_M_amend_52 : decode kc_M_amend 52 = .ok (.iconst 3, 1) := by decide +kernel
theorem kd_M_amend_53 : decode kc_M_amend 53 = .ok (.goto 4, 3) := by decide +kernel
theorem kd_M_amend_56 : decode kc_M_amend 56 = .ok (.iconst 0, 1) := by decide +kernel
theorem kd_M_amend_57 : decode kc_M_amend 57 = .ok (.putfield 190, 3) := by decide +kernel
theorem kd_M_amend_60 : decode kc_M_amend 60 = .ok (.aload_n 0, 1) := by decide +kernel
theorem kd_M_amend_61 : decode kc_M_amend 61 = .ok (.getfield 190, 3) := by decide +kernel
theorem kd_M_amend_64 : decode kc_M_amend 64 = .ok (.ifCond .le 5, 3) := by decide +kernel
theorem kd_M_amend_67 : decode kc_M_amend 67 = .ok (.lconst 0, 1) := by decide +kernel
theorem kd_M_amend_68 : decode kc_M_amend 68 = .ok (.lreturn, 1) := by decide +kernel
theorem kd_M_amend_69 : decode kc_M_amend 69 = .ok (.aload_n 0, 1) := by decide +kernel
theorem kd_M_amend_70 : decode kc_M_amend 70 = .ok (.getfield 129, 3) := by decide +kernel
theorem kd_M_amend_73 : decode kc_M_amend 73 = .ok (.iconst 3, 1) := by decide +kernel
theorem kd_M_amend_74 : decode kc_M_amend 74 = .ok (.iconst 4, 1) := by decide +kernel
theorem kd_M_amend_75 : decode kc_M_amend 75 = .ok (.iload_n 1, 1) := by decide +kernel
theorem kd_M_amend_76 : decode kc_M_amend 76 = .ok (.imul, 1) := by decide +kernel
theorem kd_M_amend_77 : decode kc_M_amend 77 = .ok (.iload_n 2, 1) := by decide +kernel
theorem kd_M_amend_78 : decode kc_M_amend 78 = .ok (.iadd, 1) := by decide +kernel
theorem kd_M_amend_79 : decode kc_M_amend 79 = .ok (.imul, 1) := by decide +kernel
theorem kd_M_amend_80 : decode kc_M_amend 80 = .ok (.iload_n 3, 1) := by decide +kernel
theorem kd_M_amend_81 : decode kc_M_amend 81 = .ok (.iadd, 1) := by decide +kernel
theorem kd_M_amend_82 : decode kc_M_amend 82 = .ok (.iload 4, 2) := by decide +kernel
theorem kd_M_amend_84 : decode kc_M_amend 84 = .ok (.iastore, 1) := by decide +kernel
theorem kd_M_amend_85 : decode kc_M_amend 85 = .ok (.lconst 0, 1) := by decide +kernel
theorem kd_M_amend_86 : decode kc_M_amend 86 = .ok (.lstore 5, 2) := by decide +kernel
theorem kd_M_amend_88 : decode kc_M_amend 88 = .ok (.aload_n 0, 1) := by decide +kernel
theorem kd_M_amend_89 : decode kc_M_amend 89 = .ok (.invokevirtual 283, 3) := by decide +kernel
theorem kd_M_amend_92 : decode kc_M_amend 92 = .ok (.iconst 0, 1) := by decide +kernel
theorem kd_M_amend_93 : decode kc_M_amend 93 = .ok (.istore 7, 2) := by decide +kernel
theorem kd_M_amend_95 : decode kc_M_amend 95 = .ok (.iload 7, 2) := by decide +kernel
theorem kd_M_amend_97 : decode kc_M_amend 97 = .ok (.aload_n 0, 1) := by decide +kernel
theorem kd_M_amend_98 : decode kc_M_amend 98 = .ok (.getfield 107, 3) := by decide +kernel
theorem kd_M_amend_101 : decode kc_M_amend 101 = .ok (.iload_n 1, 1) := by decide +kernel
theorem kd_M_amend_102 : decode kc_M_amend 102 = .ok (.iaload, 1) := by decide +kernel
theorem kd_M_amend_103 : decode kc_M_amend 103 = .ok (.if_icmp .ge 177, 3) := by decide +kernel
theorem kd_M_amend_106 : decode kc_M_amend 106 = .ok (.iconst 4, 1) := by decide +kernel
theorem kd_M_amend_107 : decode kc_M_amend 107 = .ok (.iload_n 1, 1) := by decide +kernel
theorem kd_M_amend_108 : decode kc_M_amend 108 = .ok (.imul, 1) := by decide +kernel
theorem kd_M_amend_109 : decode kc_M_amend 109 = .ok (.iload 7, 2) := by decide +kernel
theorem kd_M_amend_111 : decode kc_M_amend 111 = .ok (.iadd, 1) := by decide +kernel
theorem kd_M_amend_112 : decode kc_M_amend 112 = .ok (.istore 8, 2) := by decide +kernel
theorem kd_M_amend_114 : decode kc_M_amend 114 = .ok (.lload 5, 2) := by decide +kernel
theorem kd_M_amend_116 : decode kc_M_amend 116 = .ok (.aload_n 0, 1) := by decide +kernel
theorem kd_M_amend_117 : decode kc_M_amend 117 = .ok (.getfield 148, 3) := by decide +kernel
theorem kd_M_amend_120 : decode kc_M_amend 120 = .ok (.iload 8, 2) := by decide +kernel
theorem kd_M_amend_122 : decode kc_M_amend 122 = .ok (.laload, 1) := by decide +kernel
