abbrev kc_A_greatestRemainder : ByteArray := prog_2_method_16_code
def ky_A_greatestRemainder : MethodName := ({ cls := "BorderDesk$Assessor", name := "greatestRemainder", desc := "(I)I" } : Jvm.MethodName)
abbrev kc_A_findWeights : ByteArray := prog_2_method_15_code
def ky_A_findWeights : MethodName := ({ cls := "BorderDesk$Assessor", name := "findWeights", desc := "(I[I)J" } : Jvm.MethodName)
abbrev kc_A_spread : ByteArray := prog_2_method_14_code
def ky_A_spread : MethodName := ({ cls := "BorderDesk$Assessor", name := "spread", desc := "(II[I)V" } : Jvm.MethodName)
abbrev kc_A_findValues : ByteArray := prog_2_method_13_code
def ky_A_findValues : MethodName := ({ cls := "BorderDesk$Assessor", name := "findValues", desc := "(I)V" } : Jvm.MethodName)
abbrev kc_A_valueOf : ByteArray := prog_2_method_6_code
def ky_A_valueOf : MethodName := ({ cls := "BorderDesk$Assessor", name := "valueOf", desc := "(II)J" } : Jvm.MethodName)
abbrev kc_A_roundHalvesUp : ByteArray := prog_2_method_12_code
def ky_A_roundHalvesUp : MethodName := ({ cls := "BorderDesk$Assessor", name := "roundHalvesUp", desc := "(JJ)J" } : Jvm.MethodName)
abbrev kc_A_dutyOf : ByteArray := prog_2_method_11_code
def ky_A_dutyOf : MethodName := ({ cls := "BorderDesk$Assessor", name := "dutyOf", desc := "(II)J" } : Jvm.MethodName)
abbrev kc_A_findDuties : ByteArray := prog_2_method_10_code
def ky_A_findDuties : MethodName := ({ cls := "BorderDesk$Assessor", name := "findDuties", desc := "(I)V" } : Jvm.MethodName)
abbrev kc_A_copyQuotasLeft : ByteArray := prog_2_method_7_code
def ky_A_copyQuotasLeft : MethodName := ({ cls := "BorderDesk$Assessor", name := "copyQuotasLeft", desc := "()V" } : Jvm.MethodName)
abbrev kc_A_takeMore : ByteArray := prog_2_method_8_code
def ky_A_takeMore : MethodName := ({ cls := "BorderDesk$Assessor", name := "takeMore", desc := "(II)V" } : Jvm.MethodName)
abbrev kc_A_giveBack : ByteArray := prog_2_method_9_code
def ky_A_giveBack : MethodName := ({ cls := "BorderDesk$Assessor", name := "giveBack", desc := "(III)V" } : Jvm.MethodName)
abbrev kc_A_assess : ByteArray := prog_2_method_3_code
def ky_A_assess : MethodName := ({ cls := "BorderDesk$Assessor", name := "assess", desc := "(I)V" } : Jvm.MethodName)
abbrev kc_A_assessAnew : ByteArray := prog_2_method_4_code
def ky_A_assessAnew : MethodName := ({ cls := "BorderDesk$Assessor", name := "assessAnew", desc := "(I)V" } : Jvm.MethodName)
abbrev kc_A_book : ByteArray := prog_2_method_5_code
def ky_A_book : MethodName := ({ cls := "BorderDesk$Assessor", name := "book", desc := "(I)V" } : Jvm.MethodName)
abbrev kc_A_canAssess : ByteArray := prog_2_method_2_code
def ky_A_canAssess : MethodName := ({ cls := "BorderDesk$Assessor", name := "canAssess", desc := "(I)Z" } : Jvm.MethodName)
abbrev kc_B_makeLots : ByteArray := prog_1_method_26_code
def ky_B_makeLots : MethodName := ({ cls := "BorderDesk", name := "makeLots", desc := "(I)V" } : Jvm.MethodName)
abbrev kc_B_changeLots : ByteArray := prog_1_method_27_code
def ky_B_changeLots : MethodName := ({ cls := "BorderDesk", name := "changeLots", desc := "(I)V" } : Jvm.MethodName)
abbrev kc_B_hasGoneUnits : ByteArray := prog_1_method_28_code
def ky_B_hasGoneUnits : MethodName := ({ cls := "BorderDesk", name := "hasGoneUnits", desc := "(I)Z" } : Jvm.MethodName)
theorem kd_A_greatestRemainder_0 : decode kc_A_greatestRemainder 0 = .ok (.iconst 0, 1) := by decide +kernel
theorem kd_A_greatestRemainder_1 : decode kc_A_greatestRemainder 1 = .ok (.istore_n 2, 1) := by decide +kernel
theorem kd_A_greatestRemainder_2 : decode kc_A_greatestRemainder 2 = .ok (.iconst 1, 1) := by decide +kernel
theorem kd_A_greatestRemainder_3 : decode kc_A_greatestRemainder 3 = .ok (.istore_n 3, 1) := by decide +kernel
theorem kd_A_greatestRemainder_4 : decode kc_A_greatestRemainder 4 = .ok (.iload_n 3, 1) := by decide +kernel
theorem kd_A_greatestRemainder_5 : decode kc_A_greatestRemainder 5 = .ok (.iload_n 1, 1) := by decide +kernel
theorem kd_A_greatestRemainder_6 : decode kc_A_greatestRemainder 6 = .ok (.if_icmp .ge 27, 3) := by decide +kernel
theorem kd_A_greatestRemainder_9 : decode kc_A_greatestRemainder 9 = .ok (.aload_n 0, 1) := by decide +kernel
theorem kd_A_greatestRemainder_10 : decode kc_A_greatestRemainder 10 = .ok (.getfield 38, 3) := by decide +kernel
theorem kd_A_greatestRemainder_13 : decode kc_A_greatestRemainder 13 = .ok (.iload_n 3, 1) := by decide +kernel
theorem kd_A_greatestRemainder_14 : decode kc_A_greatestRemainder 14 = .ok (.laload, 1) := by decide +kernel
theorem kd_A_greatestRemainder_15 : decode kc_A_greatestRemainder 15 = .ok (.aload_n 0, 1) := by decide +kernel
theorem kd_A_greatestRemainder_16 : decode kc_A_greatestRemainder 16 = .ok (.getfield 38, 3) := by decide +kernel
theorem kd_A_greatestRemainder_19 : decode kc_A_greatestRemainder 19 = .ok (.iload_n 2, 1) := by decide +kernel
theorem kd_A_greatestRemainder_20 : decode kc_A_greatestRemainder 20 = .ok (.laload, 1) := by decide +kernel
theorem kd_A_greatestRemainder_21 : decode kc_A_greatestRemainder 21 = .ok (.lcmp, 1) := by decide +kernel
theorem kd_A_greatestRemainder_22 : decode kc_A_greatestRemainder 22 = .ok (.ifCond .le 5, 3) := by decide +kernel
theorem kd_A_greatestRemainder_25 : decode kc_A_greatestRemainder 25 = .ok (.iload_n 3, 1) := by decide +kernel
theorem kd_A_greatestRemainder_26 : decode kc_A_greatestRemainder 26 = .ok (.istore_n 2, 1) := by decide +kernel
theorem kd_A_greatestRemainder_27 : decode kc_A_greatestRemainder 27 = .ok (.iinc 3 1, 3) := by decide +kernel
theorem kd_A_greatestRemainder_30 : decode kc_A_greatestRemainder 30 = .ok (.goto (-26), 3) := by decide +kernel
theorem kd_A_greatestRemainder_33 : decode kc_A_greatestRemainder 33 = .ok (.iload_n 2, 1) := by decide +kernel
theorem kd_A_greatestRemainder_34 : decode kc_A_greatestRemainder 34 = .ok (.ireturn, 1) := by decide +kernel
theorem kd_A_findWeights_0 : decode kc_A_findWeights 0 = .ok (.aload_n 0, 1) := by decide +kernel
theorem kd_A_findWeights_1 : decode kc_A_findWeights 1 = .ok (.getfield 53, 3) := by decide +kernel
theorem kd_A_findWeights_4 : decode kc_A_findWeights 4 = .ok (.getfield 57, 3) := by decide +kernel
theorem kd_A_findWeights_7 : decode kc_A_findWeights 7 = .ok (.iload_n 1, 1) := by decide +kernel
theorem kd_A_findWeights_8 : decode kc_A_findWeights 8 = .ok (.iaload, 1) := by decide +kernel
theorem kd_A_findWeights_9 : decode kc_A_findWeights 9 = .ok (.istore_n 3, 1) := by decide +kernel
theorem kd_A_findWeights_10 : decode kc_A_findWeights 10 = .ok (.lconst 0, 1) := by decide +kernel
theorem kd_A_findWeights_11 : decode kc_A_findWeights 11 = .ok (.lstore 4, 2) := by decide +kernel
theorem kd_A_findWeights_13 : decode kc_A_findWeights 13 = .ok (.iconst 0, 1) := by decide +kernel
theorem kd_A_findWeights_14 : decode kc_A_findWeights 14 = .ok (.istore 6, 2) := by decide +kernel
theorem kd_A_findWeights_16 : decode kc_A_findWeights 16 = .ok (.iload 6, 2) := by decide +kernel
theorem kd_A_findWeights_18 : decode kc_A_findWeights 18 = .ok (.iload_n 3, 1) := by decide +kernel
theorem kd_A_findWeights_19 : decode kc_A_findWeights 19 = .ok (.if_icmp .ge 37, 3) := by decide +kernel
theorem kd_A_findWeights_22 : decode kc_A_findWeights 22 = .ok (.aload_n 0, 1) := by decide +kernel
theorem kd_A_findWeights_23 : decode kc_A_findWeights 23 = .ok (.getfield 35, 3) := by decide +kernel
theorem kd_A_findWeights_26 : decode kc_A_findWeights 26 = .ok (.iload 6, 2) := by decide +kernel
theorem kd_A_findWeights_28 : decode kc_A_findWeights 28 = .ok (.aload_n 2, 1) := by decide +kernel
theorem kd_A_findWeights_29 : decode kc_A_findWeights 29 = .ok (.iload_n 1, 1) := by decide +kernel
theorem kd_A_findWeights_30 : decode kc_A_findWeights 30 = .ok (.iload 6, 2) := by decide +kernel
theorem kd_A_findWeights_32 : decode kc_A_findWeights 32 = .ok (.invokestatic 63, 3) := by decide +kernel
theorem kd_A_findWeights_35 : decode kc_A_findWeights 35 = .ok (.iaload, 1) := by decide +kernel
theorem kd_A_findWeights_36 : decode kc_A_findWeights 36 = .ok (.i2l, 1) := by decide +kernel
theorem kd_A_findWeights_37 : decode kc_A_findWeights 37 = .ok (.lastore, 1) := by decide +kernel
theorem kd_A_findWeights_38 : decode kc_A_findWeights 38 = .ok (.lload 4, 2) := by decide +kernel
theorem kd_A_findWeights_40 : decode kc_A_findWeights 40 = .ok (.aload_n 0, 1) := by decide +kernel
theorem kd_A_findWeights_41 : decode kc_A_findWeights 41 = .ok (.getfield 35, 3) := by decide +kernel
theorem kd_A_findWeights_44 : decode kc_A_findWeights 44 = .ok (.iload 6, 2) := by decide +kernel
theorem kd_A_findWeights_46 : decode kc_A_findWeights 46 = .ok (.laload, 1) := by decide +kernel
theorem kd_A_findWeights_47 : decode kc_A_findWeights 47 = .ok (.ladd, 1) := by decide +kernel
theorem kd_A_findWeights_48 : decode kc_A_findWeights 48 = .ok (.lstore 4, 2) := by decide +kernel
theorem kd_A_findWeights_50 : decode kc_A_findWeights 50 = .ok (.iinc 6 1, 3) := by decide +kernel
theorem kd_A_findWeights_53 : decode kc_A_findWeights 53 = .ok (.goto (-37), 3) := by decide +kernel
theorem kd_A_findWeights_56 : decode kc_A_findWeights 56 = .ok (.lload 4, 2) := by decide +kernel
theorem kd_A_findWeights_58 : decode kc_A_findWeights 58 = .ok (.lconst 0, 1) := by decide +kernel
theorem kd_A_findWeights_59 : decode kc_A_findWeights 59 = .ok (.lcmp, 1) := by decide +kernel
theorem kd_A_findWeights_60 : decode kc_A_findWeights 60 = .ok (.ifCond .le 6, 3) := by decide +kernel
theorem kd_A_findWeights_63 : decode kc_A_findWeights 63 = .ok (.lload 4, 2) := by decide +kernel
theorem kd_A_findWeights_65 : decode kc_A_findWeights 65 = .ok (.lreturn, 1) := by decide +kernel
theorem kd_A_findWeights_66 : decode kc_A_findWeights 66 = .ok (.iconst 0, 1) := by decide +kernel
theorem kd_A_findWeights_67 : decode kc_A_findWeights 67 = .ok (.istore 6, 2) := by decide +kernel
theorem kd_A_findWeights_69 : decode kc_A_findWeights 69 = .ok (.iload 6, 2) := by decide +kernel
theorem kd_A_findWeights_71 : decode kc_A_findWeights 71 = .ok (.iload_n 3, 1) := by decide +kernel
theorem kd_A_findWeights_72 : decode kc_A_findWeights 72 = .ok (.if_icmp .ge 17, 3) := by decide +kernel
theorem kd_A_findWeights_75 : decode kc_A_findWeights 75 = .ok (.aload_n 0, 1) := by decide +kernel
theorem kd_A_findWeights_76 : decode kc_A_findWeights 76 = .ok (.getfield 35, 3) := by decide +kernel
theorem kd_A_findWeights_79 : decode kc_A_findWeights 79 = .ok (.iload 6, 2) := by decide +kernel
theorem kd_A_findWeights_81 : decode kc_A_findWeights 81 = .ok (.lconst 1, 1) := by decide +kernel
theorem kd_A_findWeights_82 : decode kc_A_findWeights 82 = .ok (.lastore, 1) := by decide +kernel
theorem kd_A_findWeights_83 : decode kc_A_findWeights 83 = .ok (.iinc 6 1, 3) := by decide +kernel
theorem kd_A_findWeights_86 : decode kc_A_findWeights 86 = .ok (.goto (-17), 3) := by decide +kernel
theorem kd_A_findWeights_89 : decode kc_A_findWeights 89 = .ok (.iload_n 3, 1) := by decide +kernel
theorem kd_A_findWeights_90 : decode kc_A_findWeights 90 = .ok (.i2l, 1) := by decide +kernel
theorem kd_A_findWeights_91 : decode kc_A_findWeights 91 = .ok (.lreturn, 1) := by decide +kernel
theorem kd_A_spread_0 : decode kc_A_spread 0 = .ok (.aload_n 0, 1) := by decide +kernel
theorem kd_A_spread_1 : decode kc_A_spread 1 = .ok (.getfield 53, 3) := by decide +kernel
theorem kd_A_spread_4 : decode kc_A_spread 4 = .ok (.getfield 57, 3) := by decide +kernel
theorem kd_A_spread_7 : decode kc_A_spread 7 = .ok (.iload_n 1, 1) := by decide +kernel
theorem kd_A_spread_8 : decode kc_A_spread 8 = .ok (.iaload, 1) := by decide +kernel
theorem kd_A_spread_9 : decode kc_A_spread 9 = .ok (.istore 4, 2) := by decide +kernel
theorem kd_A_spread_11 : decode kc_A_spread 11 = .ok (.aload_n 0, 1) := by decide +kernel
theorem kd_A_spread_12 : decode kc_A_spread 12 = .ok (.getfield 53, 3) := by decide +kernel
theorem kd_A_spread_15 : decode kc_A_spread 15 = .ok (.getfield 153, 3) := by decide +kernel
theorem kd_A_spread_18 : decode kc_A_spread 18 = .ok (.iload_n 1, 1) := by decide +kernel
theorem kd_A_spread_19 : decode kc_A_spread 19 = .ok (.aaload, 1) := by decide +kernel
theorem kd_A_spread_20 : decode kc_A_spread 20 = .ok (.iload_n 2, 1) := by decide +kernel
theorem kd_A_spread_21 : decode kc_A_spread 21 = .ok (.iaload, 1) := by decide +kernel
theorem kd_A_spread_22 : decode kc_A_spread 22 = .ok (.i2l, 1) := by decide +kernel
theorem kd_A_spread_23 : decode kc_A_spread 23 = .ok (.lstore 5, 2) := by decide +kernel
theorem kd_A_spread_25 : decode kc_A_spread 25 = .ok (.aload_n 0, 1) := by decide +kernel
theorem kd_A_spread_26 : decode kc_A_spread 26 = .ok (.iload_n 1, 1) := by decide +kernel
theorem kd_A_spread_27 : decode kc_A_spread 27 = .ok (.aload_n 3, 1) := by decide +kernel
theorem kd_A_spread_28 : decode kc_A_spread 28 = .ok (.invokevirtual 157, 3) := by decide +kernel
theorem kd_A_spread_31 : decode kc_A_spread 31 = .ok (.lstore 7, 2) := by decide +kernel
theorem kd_A_spread_33 : decode kc_A_spread 33 = .ok (.lload 5, 2) := by decide +kernel
theorem kd_A_spread_35 : decode kc_A_spread 35 = .ok (.lstore 9, 2) := by decide +kernel
theorem kd_A_spread_37 : decode kc_A_spread 37 = .ok (.iconst 0, 1) := by decide +kernel
theorem kd_A_spread_38 : decode kc_A_spread 38 = .ok (.istore 11, 2) := by decide +kernel
theorem kd_A_spread_40 : decode kc_A_spread 40 = .ok (.iload 11, 2) := by decide +kernel
theorem kd_A_spread_42 : decode kc_A_spread 42 = .ok (.iload 4, 2) := by decide +kernel
theorem kd_A_spread_44 : decode kc_A_spread 44 = .ok (.if_icmp .ge 65, 3) := by decide +kernel
theorem kd_A_spread_47 : decode kc_A_spread 47 = .ok (.lload 7, 2) := by decide +kernel
theorem kd_A_spread_49 : decode kc_A_spread 49 = .ok (.lconst 0, 1) := by decide +kernel
theorem kd_A_spread_50 : decode kc_A_spread 50 = .ok (.lcmp, 1) := by decide +kernel
theorem kd_A_spread_51 : decode kc_A_spread 51 = .ok (.ifCond .le 58, 3) := by decide +kernel
theorem kd_A_spread_54 : decode kc_A_spread 54 = .ok (.lload 5, 2) := by decide +kernel
theorem kd_A_spread_56 : decode kc_A_spread 56 = .ok (.aload_n 0, 1) := by decide +kernel
theorem kd_A_spread_57 : decode kc_A_spread 57 = .ok (.getfield 35, 3) := by decide +kernel
theorem kd_A_spread_60 : decode kc_A_spread 60 = .ok (.iload 11, 2) := by decide +kernel
theorem kd_A_spread_62 : decode kc_A_spread 62 = .ok (.laload, 1) := by decide +kernel
theorem kd_A_spread_63 : decode kc_A_spread 63 = .ok (.lmul, 1) := by decide +kernel
theorem kd_A_spread_64 : decode kc_A_spread 64 = .ok (.lstore 12, 2) := by decide +kernel
theorem kd_A_spread_66 : decode kc_A_spread 66 = .ok (.aload_n 0, 1) := by decide +kernel
theorem kd_A_spread_67 : decode kc_A_spread 67 = .ok (.getfield 21, 3) := by decide +kernel
theorem kd_A_spread_70 : decode kc_A_spread 70 = .ok (.iload 11, 2) := by decide +kernel
theorem kd_A_spread_72 : decode kc_A_spread 72 = .ok (.dup2, 1) := by decide +kernel
theorem kd_A_spread_73 : decode kc_A_spread 73 = .ok (.laload, 1) := by decide +kernel
theorem kd_A_spread_74 : decode kc_A_spread 74 = .ok (.lload 12, 2) := by decide +kernel
theorem kd_A_spread_76 : decode kc_A_spread 76 = .ok (.lload 7, 2) := by decide +kernel
theorem kd_A_spread_78 : decode kc_A_spread 78 = .ok (.ldiv, 1) := by decide +kernel
theorem kd_A_spread_79 : decode kc_A_spread 79 = .ok (.ladd, 1) := by decide +kernel
theorem kd_A_spread_80 : decode kc_A_spread 80 = .ok (.lastore, 1) := by decide +kernel
theorem kd_A_spread_81 : decode kc_A_spread 81 = .ok (.lload 9, 2) := by decide +kernel
theorem kd_A_spread_83 : decode kc_A_spread 83 = .ok (.lload 12, 2) := by decide +kernel
theorem kd_A_spread_85 : decode kc_A_spread 85 = .ok (.lload 7, 2) := by decide +kernel
theorem kd_A_spread_87 : decode kc_A_spread 87 = .ok (.ldiv, 1) := by decide +kernel
theorem kd_A_spread_88 : decode kc_A_spread 88 = .ok (.lsub, 1) := by decide +kernel
theorem kd_A_spread_89 : decode kc_A_spread 89 = .ok (.lstore 9, 2) := by decide +kernel
theorem kd_A_spread_91 : decode kc_A_spread 91 = .ok (.aload_n 0, 1) := by decide +kernel
theorem kd_A_spread_92 : decode kc_A_spread 92 = .ok (.getfield 38, 3) := by decide +kernel
theorem kd_A_spread_95 : decode kc_A_spread 95 = .ok (.iload 11, 2) := by decide +kernel
theorem kd_A_spread_97 : decode kc_A_spread 97 = .ok (.lload 12, 2) := by decide +kernel
theorem kd_A_spread_99 : decode kc_A_spread 99 = .ok (.lload 7, 2) := by decide +kernel
theorem kd_A_spread_101 : decode kc_A_spread 101 = .ok (.lrem, 1) := by decide +kernel
theorem kd_A_spread_102 : decode kc_A_spread 102 = .ok (.lastore, 1) := by decide +kernel
theorem kd_A_spread_103 : decode kc_A_spread 103 = .ok (.iinc 11 1, 3) := by decide +kernel
theorem kd_A_spread_106 : decode kc_A_spread 106 = .ok (.goto (-66), 3) := by decide +kernel
theorem kd_A_spread_109 : decode kc_A_spread 109 = .ok (.iconst 0, 1) := by decide +kernel
theorem kd_A_spread_110 : decode kc_A_spread 110 = .ok (.istore 11, 2) := by decide +kernel
theorem kd_A_spread_112 : decode kc_A_spread 112 = .ok (.iload 11, 2) := by decide +kernel
theorem kd_A_spread_114 : decode kc_A_spread 114 = .ok (.iload 4, 2) := by decide +kernel
theorem kd_A_spread_116 : decode kc_A_spread 116 = .ok (.if_icmp .ge 47, 3) := by decide +kernel
theorem kd_A_spread_119 : decode kc_A_spread 119 = .ok (.iload 11, 2) := by decide +kernel
theorem kd_A_spread_121 : decode kc_A_spread 121 = .ok (.i2l, 1) := by decide +kernel
theorem kd_A_spread_122 : decode kc_A_spread 122 = .ok (.lload 9, 2) := by decide +kernel
theorem kd_A_spread_124 : decode kc_A_spread 124 = .ok (.lcmp, 1) := by decide +kernel
theorem kd_A_spread_125 : decode kc_A_spread 125 = .ok (.ifCond .ge 38, 3) := by decide +kernel
theorem kd_A_spread_128 : decode kc_A_spread 128 = .ok (.aload_n 0, 1) := by decide +kernel
theorem kd_A_spread_129 : decode kc_A_spread 129 = .ok (.iload 4, 2) := by decide +kernel
theorem kd_A_spread_131 : decode kc_A_spread 131 = .ok (.invokevirtual 161, 3) := by decide +kernel
theorem kd_A_spread_134 : decode kc_A_spread 134 = .ok (.istore 12, 2) := by decide +kernel
theorem kd_A_spread_136 : decode kc_A_spread 136 = .ok (.aload_n 0, 1) := by decide +kernel
theorem kd_A_spread_137 : decode kc_A_spread 137 = .ok (.getfield 21, 3) := by decide +kernel
theorem kd_A_spread_140 : decode kc_A_spread 140 = .ok (.iload 12, 2) := by decide +kernel
theorem kd_A_spread_142 : decode kc_A_spread 142 = .ok (.dup2, 1) := by decide +kernel
theorem kd_A_spread_143 : decode kc_A_spread 143 = .ok (.laload, 1) := by decide +kernel
theorem kd_A_spread_144 : decode kc_A_spread 144 = .ok (.lconst 1, 1) := by decide +kernel
theorem kd_A_spread_145 : decode kc_A_spread 145 = .ok (.ladd, 1) := by decide +kernel
theorem kd_A_spread_146 : decode kc_A_spread 146 = .ok (.lastore, 1) := by decide +kernel
theorem kd_A_spread_147 : decode kc_A_spread 147 = .ok (.aload_n 0, 1) := by decide +kernel
theorem kd_A_spread_148 : decode kc_A_spread 148 = .ok (.getfield 38, 3) := by decide +kernel
theorem kd_A_spread_151 : decode kc_A_spread 151 = .ok (.iload 12, 2) := by decide +kernel
theorem kd_A_spread_153 : decode kc_A_spread 153 = .ok (.ldc2_w 164, 3) := by decide +kernel
theorem kd_A_spread_156 : decode kc_A_spread 156 = .ok (.lastore, 1) := by decide +kernel
theorem kd_A_spread_157 : decode kc_A_spread 157 = .ok (.iinc 11 1, 3) := by decide +kernel
theorem kd_A_spread_160 : decode kc_A_spread 160 = .ok (.goto (-48), 3) := by decide +kernel
theorem kd_A_spread_163 : decode kc_A_spread 163 = .ok (.return_, 1) := by decide +kernel
theorem kd_A_findValues_0 : decode kc_A_findValues 0 = .ok (.iconst 0, 1) := by decide +kernel
theorem kd_A_findValues_1 : decode kc_A_findValues 1 = .ok (.istore_n 2, 1) := by decide +kernel
theorem kd_A_findValues_2 : decode kc_A_findValues 2 = .ok (.iload_n 2, 1) := by decide +kernel
theorem kd_A_findValues_3 : decode kc_A_findValues 3 = .ok (.aload_n 0, 1) := by decide +kernel
theorem kd_A_findValues_4 : decode kc_A_findValues 4 = .ok (.getfield 53, 3) := by decide +kernel
theorem kd_A_findValues_7 : decode kc_A_findValues 7 = .ok (.getfield 57, 3) := by decide +kernel
theorem kd_A_findValues_10 : decode kc_A_findValues 10 = .ok (.iload_n 1, 1) := by decide +kernel
theorem kd_A_findValues_11 : decode kc_A_findValues 11 = .ok (.iaload, 1) := by decide +kernel
theorem kd_A_findValues_12 : decode kc_A_findValues 12 = .ok (.if_icmp .ge 29, 3) := by decide +kernel
theorem kd_A_findValues_15 : decode kc_A_findValues 15 = .ok (.aload_n 0, 1) := by decide +kernel
theorem kd_A_findValues_16 : decode kc_A_findValues 16 = .ok (.getfield 21, 3) := by decide +kernel
theorem kd_A_findValues_19 : decode kc_A_findValues 19 = .ok (.iload_n 2, 1) := by decide +kernel
theorem kd_A_findValues_20 : decode kc_A_findValues 20 = .ok (.aload_n 0, 1) := by decide +kernel
theorem kd_A_findValues_21 : decode kc_A_findValues 21 = .ok (.getfield 53, 3) := by decide +kernel
theorem kd_A_findValues_24 : decode kc_A_findValues 24 = .ok (.getfield 146, 3) := by decide +kernel
theorem kd_A_findValues_27 : decode kc_A_findValues 27 = .ok (.iload_n 1, 1) := by decide +kernel
theorem kd_A_findValues_28 : decode kc_A_findValues 28 = .ok (.iload_n 2, 1) := by decide +kernel
theorem kd_A_findValues_29 : decode kc_A_findValues 29 = .ok (.invokestatic 63, 3) := by decide +kernel
theorem kd_A_findValues_32 : decode kc_A_findValues 32 = .ok (.iaload, 1) := by decide +kernel
theorem kd_A_findValues_33 : decode kc_A_findValues 33 = .ok (.i2l, 1) := by decide +kernel
theorem kd_A_findValues_34 : decode kc_A_findValues 34 = .ok (.lastore, 1) := by decide +kernel
theorem kd_A_findValues_35 : decode kc_A_findValues 35 = .ok (.iinc 2 1, 3) := by decide +kernel
theorem kd_A_findValues_38 : decode kc_A_findValues 38 = .ok (.goto (-36), 3) := by decide +kernel
theorem kd_A_findValues_41 : decode kc_A_findValues 41 = .ok (.aload_n 0, 1) := by decide +kernel
theorem kd_A_findValues_42 : decode kc_A_findValues 42 = .ok (.iload_n 1, 1) := by decide +kernel
theorem kd_A_findValues_43 : decode kc_A_findValues 43 = .ok (.iconst 0, 1) := by decide +kernel
theorem kd_A_findValues_44 : decode kc_A_findValues 44 = .ok (.aload_n 0, 1) := by decide +kernel
theorem kd_A_findValues_45 : decode kc_A_findValues 45 = .ok (.getfield 53, 3) := by decide +kernel
theorem kd_A_findValues_48 : decode kc_A_findValues 48 = .ok (.getfield 128, 3) := by decide +kernel
theorem kd_A_findValues_51 : decode kc_A_findValues 51 = .ok (.invokevirtual 149, 3) := by decide +kernel
theorem kd_A_findValues_54 : decode kc_A_findValues 54 = .ok (.aload_n 0, 1) := by decide +kernel
theorem kd_A_findValues_55 : decode kc_A_findValues 55 = .ok (.iload_n 1, 1) := by decide +kernel
theorem kd_A_findValues_56 : decode kc_A_findValues 56 = .ok (.iconst 1, 1) := by decide +kernel
theorem kd_A_findValues_57 : decode kc_A_findValues 57 = .ok (.aload_n 0, 1) := by decide +kernel
theorem kd_A_findValues_58 : decode kc_A_findValues 58 = .ok (.getfield 53, 3) := by decide +kernel
theorem kd_A_findValues_61 : decode kc_A_findValues 61 = .ok (.getfield 146, 3) := by decide +kernel
theorem kd_A_findValues_64 : decode kc_A_findValues 64 = .ok (.invokevirtual 149, 3) := by decide +kernel
theorem kd_A_findValues_67 : decode kc_A_findValues 67 = .ok (.return_, 1) := by decide +kernel
theorem kd_A_valueOf_0 : decode kc_A_valueOf 0 = .ok (.aload_n 0, 1) := by decide +kernel
theorem kd_A_valueOf_1 : decode kc_A_valueOf 1 = .ok (.iload_n 1, 1) := by decide +kernel
theorem kd_A_valueOf_2 : decode kc_A_valueOf 2 = .ok (.invokevirtual 116, 3) := by decide +kernel
theorem kd_A_valueOf_5 : decode kc_A_valueOf 5 = .ok (.aload_n 0, 1) := by decide +kernel
theorem kd_A_valueOf_6 : decode kc_A_valueOf 6 = .ok (.getfield 21, 3) := by decide +kernel
theorem kd_A_valueOf_9 : decode kc_A_valueOf 9 = .ok (.iload_n 2, 1) := by decide +kernel
theorem kd_A_valueOf_10 : decode kc_A_valueOf 10 = .ok (.laload, 1) := by decide +kernel
