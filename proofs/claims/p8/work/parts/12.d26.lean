abbrev kc_M_quota : ByteArray := prog_11_method_19_code
def ky_M_quota : MethodName := ({ cls := "BorderDeskModel", name := "quota", desc := "(IIIIII)I" } : Jvm.MethodName)
abbrev kc_M_quotaOf : ByteArray := prog_11_method_20_code
def ky_M_quotaOf : MethodName := ({ cls := "BorderDeskModel", name := "quotaOf", desc := "(III)I" } : Jvm.MethodName)
abbrev kc_M_quotaLeft : ByteArray := prog_11_method_21_code
def ky_M_quotaLeft : MethodName := ({ cls := "BorderDeskModel", name := "quotaLeft", desc := "(I)I" } : Jvm.MethodName)
abbrev kc_M_reaches : ByteArray := prog_11_method_22_code
def ky_M_reaches : MethodName := ({ cls := "BorderDeskModel", name := "reaches", desc := "(II)Z" } : Jvm.MethodName)
abbrev kc_M_part : ByteArray := prog_11_method_23_code
def ky_M_part : MethodName := ({ cls := "BorderDeskModel", name := "part", desc := "(IIII)I" } : Jvm.MethodName)
abbrev kc_M_zone : ByteArray := prog_11_method_24_code
def ky_M_zone : MethodName := ({ cls := "BorderDeskModel", name := "zone", desc := "(II)V" } : Jvm.MethodName)
abbrev kc_M_rule : ByteArray := prog_11_method_25_code
def ky_M_rule : MethodName := ({ cls := "BorderDeskModel", name := "rule", desc := "(III)V" } : Jvm.MethodName)
abbrev kc_M_isMade : ByteArray := prog_11_method_26_code
def ky_M_isMade : MethodName := ({ cls := "BorderDeskModel", name := "isMade", desc := "(II)Z" } : Jvm.MethodName)
abbrev kc_M_madeIn : ByteArray := prog_11_method_27_code
def ky_M_madeIn : MethodName := ({ cls := "BorderDeskModel", name := "madeIn", desc := "(II)Z" } : Jvm.MethodName)
abbrev kc_M_isDeclaration : ByteArray := prog_11_method_28_code
def ky_M_isDeclaration : MethodName := ({ cls := "BorderDeskModel", name := "isDeclaration", desc := "(I)Z" } : Jvm.MethodName)
abbrev kc_M_isLine : ByteArray := prog_11_method_29_code
def ky_M_isLine : MethodName := ({ cls := "BorderDeskModel", name := "isLine", desc := "(II)Z" } : Jvm.MethodName)
abbrev kc_M_declare : ByteArray := prog_11_method_30_code
def ky_M_declare : MethodName := ({ cls := "BorderDeskModel", name := "declare", desc := "(II)I" } : Jvm.MethodName)
abbrev kc_M_isField : ByteArray := prog_11_method_31_code
def ky_M_isField : MethodName := ({ cls := "BorderDeskModel", name := "isField", desc := "(II)Z" } : Jvm.MethodName)
abbrev kc_M_line : ByteArray := prog_11_method_32_code
def ky_M_line : MethodName := ({ cls := "BorderDeskModel", name := "line", desc := "(IIIIIIZ)I" } : Jvm.MethodName)
abbrev kc_M_charge : ByteArray := prog_11_method_33_code
def ky_M_charge : MethodName := ({ cls := "BorderDeskModel", name := "charge", desc := "(III)V" } : Jvm.MethodName)
theorem kd_M_quota_0 : decode kc_M_quota 0 = .ok (.aload_n 0, 1) := by decide +kernel
theorem kd_M_quota_1 : decode kc_M_quota 1 = .ok (.iload_n 1, 1) := by decide +kernel
theorem kd_M_quota_2 : decode kc_M_quota 2 = .ok (.invokevirtual 196, 3) := by decide +kernel
theorem kd_M_quota_5 : decode kc_M_quota 5 = .ok (.ifCond .eq 39, 3) := by decide +kernel
theorem kd_M_quota_8 : decode kc_M_quota 8 = .ok (.iload_n 2, 1) := by decide +kernel
theorem kd_M_quota_9 : decode kc_M_quota 9 = .ok (.iconst 0, 1) := by decide +kernel
theorem kd_M_quota_10 : decode kc_M_quota 10 = .ok (.bipush 7, 2) := by decide +kernel
theorem kd_M_quota_12 : decode kc_M_quota 12 = .ok (.invokestatic 204, 3) := by decide +kernel
theorem kd_M_quota_15 : decode kc_M_quota 15 = .ok (.ifCond .eq 29, 3) := by decide +kernel
theorem kd_M_quota_18 : decode kc_M_quota 18 = .ok (.iload_n 3, 1) := by decide +kernel
theorem kd_M_quota_19 : decode kc_M_quota 19 = .ok (.iconst 1, 1) := by decide +kernel
theorem kd_M_quota_20 : decode kc_M_quota 20 = .ok (.ldc 238, 2) := by decide +kernel
theorem kd_M_quota_22 : decode kc_M_quota 22 = .ok (.invokestatic 204, 3) := by decide +kernel
theorem kd_M_quota_25 : decode kc_M_quota 25 = .ok (.ifCond .eq 19, 3) := by decide +kernel
theorem kd_M_quota_28 : decode kc_M_quota 28 = .ok (.iload 4, 2) := by decide +kernel
theorem kd_M_quota_30 : decode kc_M_quota 30 = .ok (.iconst 0, 1) := by decide +kernel
theorem kd_M_quota_31 : decode kc_M_quota 31 = .ok (.sipush 10000, 3) := by decide +kernel
theorem kd_M_quota_34 : decode kc_M_quota 34 = .ok (.invokestatic 204, 3) := by decide +kernel
theorem kd_M_quota_37 : decode kc_M_quota 37 = .ok (.ifCond .eq 7, 3) := by decide +kernel
theorem kd_M_quota_40 : decode kc_M_quota 40 = .ok (.iconst 1, 1) := by decide +kernel
theorem kd_M_quota_41 : decode kc_M_quota 41 = .ok (.goto 4, 3) := by decide +kernel
theorem kd_M_quota_44 : decode kc_M_quota 44 = .ok (.iconst 0, 1) := by decide +kernel
theorem kd_M_quota_45 : decode kc_M_quota 45 = .ok (.istore 7, 2) := by decide +kernel
theorem kd_M_quota_47 : decode kc_M_quota 47 = .ok (.aload_n 0, 1) := by decide +kernel
theorem kd_M_quota_48 : decode kc_M_quota 48 = .ok (.iload 7, 2) := by decide +kernel
theorem kd_M_quota_50 : decode kc_M_quota 50 = .ok (.ifCond .eq 23, 3) := by decide +kernel
theorem kd_M_quota_53 : decode kc_M_quota 53 = .ok (.iload 5, 2) := by decide +kernel
theorem kd_M_quota_55 : decode kc_M_quota 55 = .ok (.ifCond .lt 18, 3) := by decide +kernel
theorem kd_M_quota_58 : decode kc_M_quota 58 = .ok (.iload 5, 2) := by decide +kernel
theorem kd_M_quota_60 : decode kc_M_quota 60 = .ok (.iload 6, 2) := by decide +kernel
theorem kd_M_quota_62 : decode kc_M_quota 62 = .ok (.if_icmp .gt 11, 3) := by decide +kernel
theorem kd_M_quota_65 : decode kc_M_quota 65 = .ok (.iload 6, 2) := by decide +kernel
theorem kd_M_quota_67 : decode kc_M_quota 67 = .ok (.sipush 9999, 3) := by decide +kernel
theorem kd_M_quota_70 : decode kc_M_quota 70 = .ok (.if_icmp .le 7, 3) := by decide +kernel
theorem kd_M_quota_73 : decode kc_M_quota 73 = .ok (.iconst 1, 1) := by decide +kernel
theorem kd_M_quota_74 : decode kc_M_quota 74 = .ok (.goto 17, 3) := by decide +kernel
theorem kd_M_quota_77 : decode kc_M_quota 77 = .ok (.aload_n 0, 1) := by decide +kernel
theorem kd_M_quota_78 : decode kc_M_quota 78 = .ok (.getfield 239, 3) := by decide +kernel
theorem kd_M_quota_81 : decode kc_M_quota 81 = .ok (.bipush 8, 2) := by decide +kernel
theorem kd_M_quota_83 : decode kc_M_quota 83 = .ok (.if_icmp .ne 7, 3) := by decide +kernel
theorem kd_M_quota_86 : decode kc_M_quota 86 = .ok (.iconst 2, 1) := by decide +kernel
theorem kd_M_quota_87 : decode kc_M_quota 87 = .ok (.goto 4, 3) := by decide +kernel
theorem kd_M_quota_90 : decode kc_M_quota 90 = .ok (.iconst 0, 1) := by decide +kernel
theorem kd_M_quota_91 : decode kc_M_quota 91 = .ok (.putfield 190, 3) := by decide +kernel
theorem kd_M_quota_94 : decode kc_M_quota 94 = .ok (.aload_n 0, 1) := by decide +kernel
theorem kd_M_quota_95 : decode kc_M_quota 95 = .ok (.getfield 190, 3) := by decide +kernel
theorem kd_M_quota_98 : decode kc_M_quota 98 = .ok (.ifCond .le 5, 3) := by decide +kernel
theorem kd_M_quota_101 : decode kc_M_quota 101 = .ok (.iconst 0, 1) := by decide +kernel
theorem kd_M_quota_102 : decode kc_M_quota 102 = .ok (.ireturn, 1) := by decide +kernel
theorem kd_M_quota_103 : decode kc_M_quota 103 = .ok (.aload_n 0, 1) := by decide +kernel
theorem kd_M_quota_104 : decode kc_M_quota 104 = .ok (.getfield 52, 3) := by decide +kernel
theorem kd_M_quota_107 : decode kc_M_quota 107 = .ok (.aload_n 0, 1) := by decide +kernel
theorem kd_M_quota_108 : decode kc_M_quota 108 = .ok (.getfield 239, 3) := by decide +kernel
theorem kd_M_quota_111 : decode kc_M_quota 111 = .ok (.iload_n 1, 1) := by decide +kernel
theorem kd_M_quota_112 : decode kc_M_quota 112 = .ok (.iastore, 1) := by decide +kernel
theorem kd_M_quota_113 : decode kc_M_quota 113 = .ok (.aload_n 0, 1) := by decide +kernel
theorem kd_M_quota_114 : decode kc_M_quota 114 = .ok (.getfield 55, 3) := by decide +kernel
theorem kd_M_quota_117 : decode kc_M_quota 117 = .ok (.aload_n 0, 1) := by decide +kernel
theorem kd_M_quota_118 : decode kc_M_quota 118 = .ok (.getfield 239, 3) := by decide +kernel
theorem kd_M_quota_121 : decode kc_M_quota 121 = .ok (.iload_n 2, 1) := by decide +kernel
theorem kd_M_quota_122 : decode kc_M_quota 122 = .ok (.iastore, 1) := by decide +kernel
theorem kd_M_quota_123 : decode kc_M_quota 123 = .ok (.aload_n 0, 1) := by decide +kernel
theorem kd_M_quota_124 : decode kc_M_quota 124 = .ok (.getfield 58, 3) := by decide +kernel
theorem kd_M_quota_127 : decode kc_M_quota 127 = .ok (.aload_n 0, 1) := by decide +kernel
theorem kd_M_quota_128 : decode kc_M_quota 128 = .ok (.getfield 239, 3) := by decide +kernel
theorem kd_M_quota_131 : decode kc_M_quota 131 = .ok (.iload 4, 2) := by decide +kernel
theorem kd_M_quota_133 : decode kc_M_quota 133 = .ok (.iastore, 1) := by decide +kernel
theorem kd_M_quota_134 : decode kc_M_quota 134 = .ok (.aload_n 0, 1) := by decide +kernel
theorem kd_M_quota_135 : decode kc_M_quota 135 = .ok (.getfield 61, 3) := by decide +kernel
theorem kd_M_quota_138 : decode kc_M_quota 138 = .ok (.aload_n 0, 1) := by decide +kernel
theorem kd_M_quota_139 : decode kc_M_quota 139 = .ok (.getfield 239, 3) := by decide +kernel
theorem kd_M_quota_142 : decode kc_M_quota 142 = .ok (.iload 5, 2) := by decide +kernel
theorem kd_M_quota_144 : decode kc_M_quota 144 = .ok (.iastore, 1) := by decide +kernel
theorem kd_M_quota_145 : decode kc_M_quota 145 = .ok (.aload_n 0, 1) := by decide +kernel
theorem kd_M_quota_146 : decode kc_M_quota 146 = .ok (.getfield 64, 3) := by decide +kernel
theorem kd_M_quota_149 : decode kc_M_quota 149 = .ok (.aload_n 0, 1) := by decide +kernel
theorem kd_M_quota_150 : decode kc_M_quota 150 = .ok (.getfield 239, 3) := by decide +kernel
theorem kd_M_quota_153 : decode kc_M_quota 153 = .ok (.iload 6, 2) := by decide +kernel
theorem kd_M_quota_155 : decode kc_M_quota 155 = .ok (.iastore, 1) := by decide +kernel
theorem kd_M_quota_156 : decode kc_M_quota 156 = .ok (.aload_n 0, 1) := by decide +kernel
theorem kd_M_quota_157 : decode kc_M_quota 157 = .ok (.getfield 67, 3) := by decide +kernel
theorem kd_M_quota_160 : decode kc_M_quota 160 = .ok (.aload_n 0, 1) := by decide +kernel
theorem kd_M_quota_161 : decode kc_M_quota 161 = .ok (.getfield 239, 3) := by decide +kernel
theorem kd_M_quota_164 : decode kc_M_quota 164 = .ok (.iload_n 3, 1) := by decide +kernel
theorem kd_M_quota_165 : decode kc_M_quota 165 = .ok (.iastore, 1) := by decide +kernel
theorem kd_M_quota_166 : decode kc_M_quota 166 = .ok (.aload_n 0, 1) := by decide +kernel
theorem kd_M_quota_167 : decode kc_M_quota 167 = .ok (.dup, 1) := by decide +kernel
theorem kd_M_quota_168 : decode kc_M_quota 168 = .ok (.getfield 239, 3) := by decide +kernel
theorem kd_M_quota_171 : decode kc_M_quota 171 = .ok (.iconst 1, 1) := by decide +kernel
theorem kd_M_quota_172 : decode kc_M_quota 172 = .ok (.iadd, 1) := by decide +kernel
theorem kd_M_quota_173 : decode kc_M_quota 173 = .ok (.putfield 239, 3) := by decide +kernel
theorem kd_M_quota_176 : decode kc_M_quota 176 = .ok (.aload_n 0, 1) := by decide +kernel
theorem kd_M_quota_177 : decode kc_M_quota 177 = .ok (.getfield 239, 3) := by decide +kernel
theorem kd_M_quota_180 : decode kc_M_quota 180 = .ok (.iconst 1, 1) := by decide +kernel
theorem kd_M_quota_181 : decode kc_M_quota 181 = .ok (.isub, 1) := by decide +kernel
theorem kd_M_quota_182 : decode kc_M_quota 182 = .ok (.ireturn, 1) := by decide +kernel
theorem kd_M_quotaOf_0 : decode kc_M_quotaOf 0 = .ok (.iconst (-1), 1) := by decide +kernel
theorem kd_M_quotaOf_1 : decode kc_M_quotaOf 1 = .ok (.istore 4, 2) := by decide +kernel
theorem kd_M_quotaOf_3 : decode kc_M_quotaOf 3 = .ok (.aload_n 0, 1) := by decide +kernel
theorem kd_M_quotaOf_4 : decode kc_M_quotaOf 4 = .ok (.getfield 239, 3) := by decide +kernel
theorem kd_M_quotaOf_7 : decode kc_M_quotaOf 7 = .ok (.iconst 1, 1) := by decide +kernel
theorem kd_M_quotaOf_8 : decode kc_M_quotaOf 8 = .ok (.isub, 1) := by decide +kernel
theorem kd_M_quotaOf_9 : decode kc_M_quotaOf 9 = .ok (.istore 5, 2) := by decide +kernel
theorem kd_M_quotaOf_11 : decode kc_M_quotaOf 11 = .ok (.iload 5, 2) := by decide +kernel
theorem kd_M_quotaOf_13 : decode kc_M_quotaOf 13 = .ok (.ifCond .lt 66, 3) := by decide +kernel
theorem kd_M_quotaOf_16 : decode kc_M_quotaOf 16 = .ok (.aload_n 0, 1) := by decide +kernel
theorem kd_M_quotaOf_17 : decode kc_M_quotaOf 17 = .ok (.iload_n 1, 1) := by decide +kernel
theorem kd_M_quotaOf_18 : decode kc_M_quotaOf 18 = .ok (.aload_n 0, 1) := by decide +kernel
theorem kd_M_quotaOf_19 : decode kc_M_quotaOf 19 = .ok (.getfield 52, 3) := by decide +kernel
theorem kd_M_quotaOf_22 : decode kc_M_quotaOf 22 = .ok (.iload 5, 2) := by decide +kernel
theorem kd_M_quotaOf_24 : decode kc_M_quotaOf 24 = .ok (.iaload, 1) := by decide +kernel
theorem kd_M_quotaOf_25 : decode kc_M_quotaOf 25 = .ok (.invokevirtual 211, 3) := by decide +kernel
theorem kd_M_quotaOf_28 : decode kc_M_quotaOf 28 = .ok (.ifCond .eq 41, 3) := by decide +kernel
theorem kd_M_quotaOf_31 : decode kc_M_quotaOf 31 = .ok (.aload_n 0, 1) := by decide +kernel
theorem kd_M_quotaOf_32 : decode kc_M_quotaOf 32 = .ok (.getfield 55, 3) := by decide +kernel
theorem kd_M_quotaOf_35 : decode kc_M_quotaOf 35 = .ok (.iload 5, 2) := by decide +kernel
theorem kd_M_quotaOf_37 : decode kc_M_quotaOf 37 = .ok (.iaload, 1) := by decide +kernel
theorem kd_M_quotaOf_38 : decode kc_M_quotaOf 38 = .ok (.iload_n 2, 1) := by decide +kernel
theorem kd_M_quotaOf_39 : decode kc_M_quotaOf 39 = .ok (.if_icmp .ne 30, 3) := by decide +kernel
theorem kd_M_quotaOf_42 : decode kc_M_quotaOf 42 = .ok (.iload_n 3, 1) := by decide +kernel
theorem kd_M_quotaOf_43 : decode kc_M_quotaOf 43 = .ok (.aload_n 0, 1) := by decide +kernel
theorem kd_M_quotaOf_44 : decode kc_M_quotaOf 44 = .ok (.getfield 61, 3) := by decide +kernel
theorem kd_M_quotaOf_47 : decode kc_M_quotaOf 47 = .ok (.iload 5, 2) := by decide +kernel
theorem kd_M_quotaOf_49 : decode kc_M_quotaOf 49 = .ok (.iaload, 1) := by decide +kernel
theorem kd_M_quotaOf_50 : decode kc_M_quotaOf 50 = .ok (.if_icmp .lt 19, 3) := by decide +kernel
theorem kd_M_quotaOf_53 : decode kc_M_quotaOf 53 = .ok (.iload_n 3, 1) := by decide +kernel
theorem kd_M_quotaOf_54 : decode kc_M_quotaOf 54 = .ok (.aload_n 0, 1) := by decide +kernel
theorem kd_M_quotaOf_55 : decode kc_M_quotaOf 55 = .ok (.getfield 64, 3) := by decide +kernel
theorem kd_M_quotaOf_58 : decode kc_M_quotaOf 58 = .ok (.iload 5, 2) := by decide +kernel
theorem kd_M_quotaOf_60 : decode kc_M_quotaOf 60 = .ok (.iaload, 1) := by decide +kernel
theorem kd_M_quotaOf_61 : decode kc_M_quotaOf 61 = .ok (.if_icmp .gt 8, 3) := by decide +kernel
theorem kd_M_quotaOf_64 : decode kc_M_quotaOf 64 = .ok (.iload 5, 2) := by decide +kernel
theorem kd_M_quotaOf_66 : decode kc_M_quotaOf 66 = .ok (.goto 5, 3) := by decide +kernel
theorem kd_M_quotaOf_69 : decode kc_M_quotaOf 69 = .ok (.iload 4, 2) := by decide +kernel
theorem kd_M_quotaOf_71 : decode kc_M_quotaOf 71 = .ok (.istore 4, 2) := by decide +kernel
theorem kd_M_quotaOf_73 : decode kc_M_quotaOf 73 = .ok (.iinc 5 (-1), 3) := by decide +kernel
theorem kd_M_quotaOf_76 : decode kc_M_quotaOf 76 = .ok (.goto (-65), 3) := by decide +kernel
theorem kd_M_quotaOf_79 : decode kc_M_quotaOf 79 = .ok (.iload 4, 2) := by decide +kernel
theorem kd_M_quotaOf_81 : decode kc_M_quotaOf 81 = .ok (.ireturn, 1) := by decide +kernel
theorem kd_M_quotaLeft_0 : decode kc_M_quotaLeft 0 = .ok (.aload_n 0, 1) := by decide +kernel
theorem kd_M_quotaLeft_1 : decode kc_M_quotaLeft 1 = .ok (.iload_n 1, 1) := by decide +kernel
theorem kd_M_quotaLeft_2 : decode kc_M_quotaLeft 2 = .ok (.ifCond .lt 15, 3) := by decide +kernel
theorem kd_M_quotaLeft_5 : decode kc_M_quotaLeft 5 = .ok (.iload_n 1, 1) := by decide +kernel
theorem kd_M_quotaLeft_6 : decode kc_M_quotaLeft 6 = .ok (.aload_n 0, 1) := by decide +kernel
theorem kd_M_quotaLeft_7 : decode kc_M_quotaLeft 7 = .ok (.getfield 239, 3) := by decide +kernel
theorem kd_M_quotaLeft_10 : decode kc_M_quotaLeft 10 = .ok (.if_icmp .ge 7, 3) := by decide +kernel
theorem kd_M_quotaLeft_13 : decode kc_M_quotaLeft 13 = .ok (.iconst 0, 1) := by decide +kernel
theorem kd_M_quotaLeft_14 : decode kc_M_quotaLeft 14 = .ok (.goto 4, 3) := by decide +kernel
theorem kd_M_quotaLeft_17 : decode kc_M_quotaLeft 17 = .ok (.iconst 1, 1) := by decide +kernel
theorem kd_M_quotaLeft_18 : decode kc_M_quotaLeft 18 = .ok (.putfield 190, 3) := by decide +kernel
theorem kd_M_quotaLeft_21 : decode kc_M_quotaLeft 21 = .ok (.aload_n 0, 1) := by decide +kernel
theorem kd_M_quotaLeft_22 : decode kc_M_quotaLeft 22 = .ok (.getfield 190, 3) := by decide +kernel
theorem kd_M_quotaLeft_25 : decode kc_M_quotaLeft 25 = .ok (.ifCond .le 7, 3) := by decide +kernel
theorem kd_M_quotaLeft_28 : decode kc_M_quotaLeft 28 = .ok (.iconst 0, 1) := by decide +kernel
theorem kd_M_quotaLeft_29 : decode kc_M_quotaLeft 29 = .ok (.goto 9, 3) := by decide +kernel
theorem kd_M_quotaLeft_32 : decode kc_M_quotaLeft 32 = .ok (.aload_n 0, 1) := by decide +kernel
theorem kd_M_quotaLeft_33 : decode kc_M_quotaLeft 33 = .ok (.getfield 67, 3) := by decide +kernel
theorem kd_M_quotaLeft_36 : decode kc_M_quotaLeft 36 = .ok (.iload_n 1, 1) := by decide +kernel
theorem kd_M_quotaLeft_37 : decode kc_M_quotaLeft 37 = .ok (.iaload, 1) := by decide +kernel
theorem kd_M_quotaLeft_38 : decode kc_M_quotaLeft 38 = .ok (.ireturn, 1) := by decide +kernel
theorem kd_M_reaches_0 : decode kc_M_reaches 0 = .ok (.iconst 0, 1) := by decide +kernel
theorem kd_M_reaches_1 : decode kc_M_reaches 1 = .ok (.istore_n 3, 1) := by decide +kernel
theorem kd_M_reaches_2 : decode kc_M_reaches 2 = .ok (.iload_n 3, 1) := by decide +kernel
theorem kd_M_reaches_3 : decode kc_M_reaches 3 = .ok (.bipush 16, 2) := by decide +kernel
theorem kd_M_reaches_5 : decode kc_M_reaches 5 = .ok (.if_icmp .ge 25, 3) := by decide +kernel
theorem kd_M_reaches_8 : decode kc_M_reaches 8 = .ok (.aload_n 0, 1) := by decide +kernel
theorem kd_M_reaches_9 : decode kc_M_reaches 9 = .ok (.getfield 94, 3) := by decide +kernel
theorem kd_M_reaches_12 : decode kc_M_reaches 12 = .ok (.iload_n 3, 1) := by decide +kernel
theorem kd_M_reaches_13 : decode kc_M_reaches 13 = .ok (.iload_n 3, 1) := by decide +kernel
theorem kd_M_reaches_14 : decode kc_M_reaches 14 = .ok (.iload_n 1, 1) := by decide +kernel
theorem kd_M_reaches_15 : decode kc_M_reaches 15 = .ok (.if_icmp .ne 7, 3) := by decide +kernel
theorem kd_M_reaches_18 : decode kc_M_reaches 18 = .ok (.iconst 1, 1) := by decide +kernel
theorem kd_M_reaches_19 : decode kc_M_reaches 19 = .ok (.goto 4, 3) := by decide +kernel
theorem kd_M_reaches_22 : decode kc_M_reaches 22 = .ok (.iconst 0, 1) := by decide +kernel
theorem kd_M_reaches_23 : decode kc_M_reaches 23 = .ok (.bastore, 1) := by decide +kernel
theorem kd_M_reaches_24 : decode kc_M_reaches 24 = .ok (.iinc 3 1, 3) := by decide +kernel
theorem kd_M_reaches_27 : decode kc_M_reaches 27 = .ok (.goto (-25), 3) := by decide +kernel
theorem kd_M_reaches_30 : decode kc_M_reaches 30 = .ok (.iconst 0, 1) := by decide +kernel
theorem kd_M_reaches_31 : decode kc_M_reaches 31 = .ok (.istore_n 3, 1) := by decide +kernel
theorem kd_M_reaches_32 : decode kc_M_reaches 32 = .ok (.iload_n 3, 1) := by decide +kernel
theorem kd_M_reaches_33 : decode kc_M_reaches 33 = .ok (.bipush 16, 2) := by decide +kernel
theorem kd_M_reaches_35 : decode kc_M_reaches 35 = .ok (.if_icmp .ge 74, 3) := by decide +kernel
theorem kd_M_reaches_38 : decode kc_M_reaches 38 = .ok (.iconst 0, 1) := by decide +kernel
theorem kd_M_reaches_39 : decode kc_M_reaches 39 = .ok (.istore 4, 2) := by decide +kernel
theorem kd_M_reaches_41 : decode kc_M_reaches 41 = .ok (.iload 4, 2) := by decide +kernel
theorem kd_M_reaches_43 : decode kc_M_reaches 43 = .ok (.bipush 16, 2) := by decide +kernel
theorem kd_M_reaches_45 : decode kc_M_reaches 45 = .ok (.if_icmp .ge 58, 3) := by decide +kernel
theorem kd_M_reaches_48 : decode kc_M_reaches 48 = .ok (.iconst 0, 1) := by decide +kernel
theorem kd_M_reaches_49 : decode kc_M_reaches 49 = .ok (.istore 5, 2) := by decide +kernel
theorem kd_M_reaches_51 : decode kc_M_reaches 51 = .ok (.iload 5, 2) := by decide +kernel
theorem kd_M_reaches_53 : decode kc_M_reaches 53 = .ok (.aload_n 0, 1) := by decide +kernel
theorem kd_M_reaches_54 : decode kc_M_reaches 54 = .ok (.getfield 76, 3) := by decide +kernel
theorem kd_M_reaches_57 : decode kc_M_reaches 57 = .ok (.iload 4, 2) := by decide +kernel
theorem kd_M_reaches_59 : decode kc_M_reaches 59 = .ok (.iaload, 1) := by decide +kernel
theorem kd_M_reaches_60 : decode kc_M_reaches 60 = .ok (.if_icmp .ge 37, 3) := by decide +kernel
theorem kd_M_reaches_63 : decode kc_M_reaches 63 = .ok (.aload_n 0, 1) := by decide +kernel
theorem kd_M_reaches_64 : decode kc_M_reaches 64 = .ok (.getfield 94, 3) := by decide +kernel
theorem kd_M_reaches_67 : decode kc_M_reaches 67 = .ok (.iload 4, 2) := by decide +kernel
theorem kd_M_reaches_69 : decode kc_M_reaches 69 = .ok (.baload, 1) := by decide +kernel
theorem kd_M_reaches_70 : decode kc_M_reaches 70 = .ok (.ifCond .eq 27, 3) := by decide +kernel
theorem kd_M_reaches_73 : decode kc_M_reaches 73 = .ok (.aload_n 0, 1) := by decide +kernel
theorem kd_M_reaches_74 : decode kc_M_reaches 74 = .ok (.getfield 94, 3) := by decide +kernel
theorem kd_M_reaches_77 : decode kc_M_reaches 77 = .ok (.aload_n 0, 1) := by decide +kernel
theorem kd_M_reaches_78 : decode kc_M_reaches 78 = .ok (.getfield 79, 3) := by decide +kernel
theorem kd_M_reaches_81 : decode kc_M_reaches 81 = .ok (.iconst 5, 1) := by decide +kernel
theorem kd_M_reaches_82 : decode kc_M_reaches 82 = .ok (.iload 4, 2) := by decide +kernel
theorem kd_M_reaches_84 : decode kc_M_reaches 84 = .ok (.imul, 1) := by decide +kernel
theorem kd_M_reaches_85 : decode kc_M_reaches 85 = .ok (.iload 5, 2) := by decide +kernel
theorem kd_M_reaches_87 : decode kc_M_reaches 87 = .ok (.iadd, 1) := by decide +kernel
theorem kd_M_reaches_88 : decode kc_M_reaches 88 = .ok (.iaload, 1) := by decide +kernel
theorem kd_M_reaches_89 : decode kc_M_reaches 89 = .ok (.iconst 1, 1) := by decide +kernel
theorem kd_M_reaches_90 : decode kc_M_reaches 90 = .ok (.bastore, 1) := by decide +kernel
theorem kd_M_reaches_91 : decode kc_M_reaches 91 = .ok (.iinc 5 1, 3) := by decide +kernel
theorem kd_M_reaches_94 : decode kc_M_reaches 94 = .ok (.goto (-43), 3) := by decide +kernel
theorem kd_M_reaches_97 : decode kc_M_reaches 97 = .ok (.iinc 4 1, 3) := by decide +kernel
theorem kd_M_reaches_100 : decode kc_M_reaches 100 = .ok (.goto (-59), 3) := by decide +kernel
theorem kd_M_reaches_103 : decode kc_M_reaches 103 = .ok (.iinc 3 1, 3) := by decide +kernel
theorem kd_M_reaches_106 : decode kc_M_reaches 106 = .ok (.goto (-74), 3) := by decide +kernel
theorem kd_M_reaches_109 : decode kc_M_reaches 109 = .ok (.aload_n 0, 1) := by decide +kernel
theorem kd_M_reaches_110 : decode kc_M_reaches 110 = .ok (.getfield 94, 3) := by decide +kernel
