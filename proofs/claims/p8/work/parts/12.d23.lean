abbrev kc_M_thrown : ByteArray := prog_11_method_2_code
def ky_M_thrown : MethodName := ({ cls := "BorderDeskModel", name := "thrown", desc := "()I" } : Jvm.MethodName)
abbrev kc_M_within : ByteArray := prog_11_method_3_code
def ky_M_within : MethodName := ({ cls := "BorderDeskModel", name := "within", desc := "(III)Z" } : Jvm.MethodName)
abbrev kc_M_isHeading : ByteArray := prog_11_method_4_code
def ky_M_isHeading : MethodName := ({ cls := "BorderDeskModel", name := "isHeading", desc := "(I)Z" } : Jvm.MethodName)
abbrev kc_M_depthOf : ByteArray := prog_11_method_5_code
def ky_M_depthOf : MethodName := ({ cls := "BorderDeskModel", name := "depthOf", desc := "(I)I" } : Jvm.MethodName)
abbrev kc_M_isUnder : ByteArray := prog_11_method_9_code
def ky_M_isUnder : MethodName := ({ cls := "BorderDeskModel", name := "isUnder", desc := "(II)Z" } : Jvm.MethodName)
abbrev kc_M_holds : ByteArray := prog_11_method_10_code
def ky_M_holds : MethodName := ({ cls := "BorderDeskModel", name := "holds", desc := "(II)Z" } : Jvm.MethodName)
abbrev kc_M_fits : ByteArray := prog_11_method_11_code
def ky_M_fits : MethodName := ({ cls := "BorderDeskModel", name := "fits", desc := "(II)Z" } : Jvm.MethodName)
abbrev kc_M_shareOf : ByteArray := prog_11_method_12_code
def ky_M_shareOf : MethodName := ({ cls := "BorderDeskModel", name := "shareOf", desc := "(II)I" } : Jvm.MethodName)
abbrev kc_M_classOf : ByteArray := prog_11_method_13_code
def ky_M_classOf : MethodName := ({ cls := "BorderDeskModel", name := "classOf", desc := "(I)I" } : Jvm.MethodName)
abbrev kc_M_heading : ByteArray := prog_11_method_6_code
def ky_M_heading : MethodName := ({ cls := "BorderDeskModel", name := "heading", desc := "(I)I" } : Jvm.MethodName)
abbrev kc_M_note : ByteArray := prog_11_method_7_code
def ky_M_note : MethodName := ({ cls := "BorderDeskModel", name := "note", desc := "(IIII)I" } : Jvm.MethodName)
abbrev kc_M_fact : ByteArray := prog_11_method_8_code
def ky_M_fact : MethodName := ({ cls := "BorderDeskModel", name := "fact", desc := "(III)I" } : Jvm.MethodName)
abbrev kc_M_classify : ByteArray := prog_11_method_14_code
def ky_M_classify : MethodName := ({ cls := "BorderDeskModel", name := "classify", desc := "(I)I" } : Jvm.MethodName)
abbrev kc_M_rate : ByteArray := prog_11_method_15_code
def ky_M_rate : MethodName := ({ cls := "BorderDeskModel", name := "rate", desc := "(IIIIIII)I" } : Jvm.MethodName)
abbrev kc_M_lastRate : ByteArray := prog_11_method_16_code
def ky_M_lastRate : MethodName := ({ cls := "BorderDeskModel", name := "lastRate", desc := "(III)I" } : Jvm.MethodName)
abbrev kc_M_rateOf : ByteArray := prog_11_method_17_code
def ky_M_rateOf : MethodName := ({ cls := "BorderDeskModel", name := "rateOf", desc := "(III)I" } : Jvm.MethodName)
abbrev kc_M_rateFor : ByteArray := prog_11_method_18_code
def ky_M_rateFor : MethodName := ({ cls := "BorderDeskModel", name := "rateFor", desc := "(III)I" } : Jvm.MethodName)
theorem kd_M_thrown_0 : decode kc_M_thrown 0 = .ok (.aload_n 0, 1) := by decide +kernel
theorem kd_M_thrown_1 : decode kc_M_thrown 1 = .ok (.getfield 190, 3) := by decide +kernel
theorem kd_M_thrown_4 : decode kc_M_thrown 4 = .ok (.ireturn, 1) := by decide +kernel
theorem kd_M_within_0 : decode kc_M_within 0 = .ok (.iload_n 0, 1) := by decide +kernel
theorem kd_M_within_1 : decode kc_M_within 1 = .ok (.iload_n 1, 1) := by decide +kernel
theorem kd_M_within_2 : decode kc_M_within 2 = .ok (.if_icmp .lt 12, 3) := by decide +kernel
theorem kd_M_within_5 : decode kc_M_within 5 = .ok (.iload_n 0, 1) := by decide +kernel
theorem kd_M_within_6 : decode kc_M_within 6 = .ok (.iload_n 2, 1) := by decide +kernel
theorem kd_M_within_7 : decode kc_M_within 7 = .ok (.if_icmp .gt 7, 3) := by decide +kernel
theorem kd_M_within_10 : decode kc_M_within 10 = .ok (.iconst 1, 1) := by decide +kernel
theorem kd_M_within_11 : decode kc_M_within 11 = .ok (.goto 4, 3) := by decide +kernel
theorem kd_M_within_14 : decode kc_M_within 14 = .ok (.iconst 0, 1) := by decide +kernel
theorem kd_M_within_15 : decode kc_M_within 15 = .ok (.ireturn, 1) := by decide +kernel
theorem kd_M_isHeading_0 : decode kc_M_isHeading 0 = .ok (.iload_n 1, 1) := by decide +kernel
theorem kd_M_isHeading_1 : decode kc_M_isHeading 1 = .ok (.ifCond .lt 15, 3) := by decide +kernel
theorem kd_M_isHeading_4 : decode kc_M_isHeading 4 = .ok (.iload_n 1, 1) := by decide +kernel
theorem kd_M_isHeading_5 : decode kc_M_isHeading 5 = .ok (.aload_n 0, 1) := by decide +kernel
theorem kd_M_isHeading_6 : decode kc_M_isHeading 6 = .ok (.getfield 193, 3) := by decide +kernel
theorem kd_M_isHeading_9 : decode kc_M_isHeading 9 = .ok (.if_icmp .ge 7, 3) := by decide +kernel
theorem kd_M_isHeading_12 : decode kc_M_isHeading 12 = .ok (.iconst 1, 1) := by decide +kernel
theorem kd_M_isHeading_13 : decode kc_M_isHeading 13 = .ok (.goto 4, 3) := by decide +kernel
theorem kd_M_isHeading_16 : decode kc_M_isHeading 16 = .ok (.iconst 0, 1) := by decide +kernel
theorem kd_M_isHeading_17 : decode kc_M_isHeading 17 = .ok (.ireturn, 1) := by decide +kernel
theorem kd_M_depthOf_0 : decode kc_M_depthOf 0 = .ok (.iconst 0, 1) := by decide +kernel
theorem kd_M_depthOf_1 : decode kc_M_depthOf 1 = .ok (.istore_n 2, 1) := by decide +kernel
theorem kd_M_depthOf_2 : decode kc_M_depthOf 2 = .ok (.aload_n 0, 1) := by decide +kernel
theorem kd_M_depthOf_3 : decode kc_M_depthOf 3 = .ok (.getfield 7, 3) := by decide +kernel
theorem kd_M_depthOf_6 : decode kc_M_depthOf 6 = .ok (.iload_n 1, 1) := by decide +kernel
theorem kd_M_depthOf_7 : decode kc_M_depthOf 7 = .ok (.iaload, 1) := by decide +kernel
theorem kd_M_depthOf_8 : decode kc_M_depthOf 8 = .ok (.istore_n 3, 1) := by decide +kernel
theorem kd_M_depthOf_9 : decode kc_M_depthOf 9 = .ok (.iload_n 3, 1) := by decide +kernel
theorem kd_M_depthOf_10 : decode kc_M_depthOf 10 = .ok (.ifCond .lt 16, 3) := by decide +kernel
theorem kd_M_depthOf_13 : decode kc_M_depthOf 13 = .ok (.iinc 2 1, 3) := by decide +kernel
theorem kd_M_depthOf_16 : decode kc_M_depthOf 16 = .ok (.aload_n 0, 1) := by decide +kernel
theorem kd_M_depthOf_17 : decode kc_M_depthOf 17 = .ok (.getfield 7, 3) := by decide +kernel
theorem kd_M_depthOf_20 : decode kc_M_depthOf 20 = .ok (.iload_n 3, 1) := by decide +kernel
theorem kd_M_depthOf_21 : decode kc_M_depthOf 21 = .ok (.iaload, 1) := by decide +kernel
theorem kd_M_depthOf_22 : decode kc_M_depthOf 22 = .ok (.istore_n 3, 1) := by decide +kernel
theorem kd_M_depthOf_23 : decode kc_M_depthOf 23 = .ok (.goto (-14), 3) := by decide +kernel
theorem kd_M_depthOf_26 : decode kc_M_depthOf 26 = .ok (.iload_n 2, 1) := by decide +kernel
theorem kd_M_depthOf_27 : decode kc_M_depthOf 27 = .ok (.ireturn, 1) := by decide +kernel
theorem kd_M_isUnder_0 : decode kc_M_isUnder 0 = .ok (.iload_n 1, 1) := by decide +kernel
theorem kd_M_isUnder_1 : decode kc_M_isUnder 1 = .ok (.istore_n 3, 1) := by decide +kernel
theorem kd_M_isUnder_2 : decode kc_M_isUnder 2 = .ok (.iload_n 3, 1) := by decide +kernel
theorem kd_M_isUnder_3 : decode kc_M_isUnder 3 = .ok (.ifCond .lt 18, 3) := by decide +kernel
theorem kd_M_isUnder_6 : decode kc_M_isUnder 6 = .ok (.iload_n 3, 1) := by decide +kernel
theorem kd_M_isUnder_7 : decode kc_M_isUnder 7 = .ok (.iload_n 2, 1) := by decide +kernel
theorem kd_M_isUnder_8 : decode kc_M_isUnder 8 = .ok (.if_icmp .eq 13, 3) := by decide +kernel
theorem kd_M_isUnder_11 : decode kc_M_isUnder 11 = .ok (.aload_n 0, 1) := by decide +kernel
theorem kd_M_isUnder_12 : decode kc_M_isUnder 12 = .ok (.getfield 7, 3) := by decide +kernel
theorem kd_M_isUnder_15 : decode kc_M_isUnder 15 = .ok (.iload_n 3, 1) := by decide +kernel
theorem kd_M_isUnder_16 : decode kc_M_isUnder 16 = .ok (.iaload, 1) := by decide +kernel
theorem kd_M_isUnder_17 : decode kc_M_isUnder 17 = .ok (.istore_n 3, 1) := by decide +kernel
theorem kd_M_isUnder_18 : decode kc_M_isUnder 18 = .ok (.goto (-16), 3) := by decide +kernel
theorem kd_M_isUnder_21 : decode kc_M_isUnder 21 = .ok (.iload_n 3, 1) := by decide +kernel
theorem kd_M_isUnder_22 : decode kc_M_isUnder 22 = .ok (.ifCond .lt 7, 3) := by decide +kernel
theorem kd_M_isUnder_25 : decode kc_M_isUnder 25 = .ok (.iconst 1, 1) := by decide +kernel
theorem kd_M_isUnder_26 : decode kc_M_isUnder 26 = .ok (.goto 4, 3) := by decide +kernel
theorem kd_M_isUnder_29 : decode kc_M_isUnder 29 = .ok (.iconst 0, 1) := by decide +kernel
theorem kd_M_isUnder_30 : decode kc_M_isUnder 30 = .ok (.ireturn, 1) := by decide +kernel
theorem kd_M_holds_0 : decode kc_M_holds 0 = .ok (.aload_n 0, 1) := by decide +kernel
theorem kd_M_holds_1 : decode kc_M_holds 1 = .ok (.getfield 73, 3) := by decide +kernel
theorem kd_M_holds_4 : decode kc_M_holds 4 = .ok (.bipush 8, 2) := by decide +kernel
theorem kd_M_holds_6 : decode kc_M_holds 6 = .ok (.iload_n 2, 1) := by decide +kernel
theorem kd_M_holds_7 : decode kc_M_holds 7 = .ok (.imul, 1) := by decide +kernel
theorem kd_M_holds_8 : decode kc_M_holds 8 = .ok (.aload_n 0, 1) := by decide +kernel
theorem kd_M_holds_9 : decode kc_M_holds 9 = .ok (.getfield 25, 3) := by decide +kernel
theorem kd_M_holds_12 : decode kc_M_holds 12 = .ok (.iload_n 1, 1) := by decide +kernel
theorem kd_M_holds_13 : decode kc_M_holds 13 = .ok (.iaload, 1) := by decide +kernel
theorem kd_M_holds_14 : decode kc_M_holds 14 = .ok (.iadd, 1) := by decide +kernel
theorem kd_M_holds_15 : decode kc_M_holds 15 = .ok (.iaload, 1) := by decide +kernel
theorem kd_M_holds_16 : decode kc_M_holds 16 = .ok (.istore_n 3, 1) := by decide +kernel
theorem kd_M_holds_17 : decode kc_M_holds 17 = .ok (.aload_n 0, 1) := by decide +kernel
theorem kd_M_holds_18 : decode kc_M_holds 18 = .ok (.getfield 22, 3) := by decide +kernel
theorem kd_M_holds_21 : decode kc_M_holds 21 = .ok (.iload_n 1, 1) := by decide +kernel
theorem kd_M_holds_22 : decode kc_M_holds 22 = .ok (.iaload, 1) := by decide +kernel
theorem kd_M_holds_23 : decode kc_M_holds 23 = .ok (.iconst 1, 1) := by decide +kernel
theorem kd_M_holds_24 : decode kc_M_holds 24 = .ok (.if_icmp .ne 19, 3) := by decide +kernel
theorem kd_M_holds_27 : decode kc_M_holds 27 = .ok (.iload_n 3, 1) := by decide +kernel
theorem kd_M_holds_28 : decode kc_M_holds 28 = .ok (.aload_n 0, 1) := by decide +kernel
theorem kd_M_holds_29 : decode kc_M_holds 29 = .ok (.getfield 28, 3) := by decide +kernel
theorem kd_M_holds_32 : decode kc_M_holds 32 = .ok (.iload_n 1, 1) := by decide +kernel
theorem kd_M_holds_33 : decode kc_M_holds 33 = .ok (.iaload, 1) := by decide +kernel
theorem kd_M_holds_34 : decode kc_M_holds 34 = .ok (.if_icmp .ge 7, 3) := by decide +kernel
theorem kd_M_holds_37 : decode kc_M_holds 37 = .ok (.iconst 1, 1) := by decide +kernel
theorem kd_M_holds_38 : decode kc_M_holds 38 = .ok (.goto 4, 3) := by decide +kernel
theorem kd_M_holds_41 : decode kc_M_holds 41 = .ok (.iconst 0, 1) := by decide +kernel
theorem kd_M_holds_42 : decode kc_M_holds 42 = .ok (.ireturn, 1) := by decide +kernel
theorem kd_M_holds_43 : decode kc_M_holds 43 = .ok (.iload_n 3, 1) := by decide +kernel
theorem kd_M_holds_44 : decode kc_M_holds 44 = .ok (.aload_n 0, 1) := by decide +kernel
theorem kd_M_holds_45 : decode kc_M_holds 45 = .ok (.getfield 28, 3) := by decide +kernel
theorem kd_M_holds_48 : decode kc_M_holds 48 = .ok (.iload_n 1, 1) := by decide +kernel
theorem kd_M_holds_49 : decode kc_M_holds 49 = .ok (.iaload, 1) := by decide +kernel
theorem kd_M_holds_50 : decode kc_M_holds 50 = .ok (.if_icmp .lt 7, 3) := by decide +kernel
theorem kd_M_holds_53 : decode kc_M_holds 53 = .ok (.iconst 1, 1) := by decide +kernel
theorem kd_M_holds_54 : decode kc_M_holds 54 = .ok (.goto 4, 3) := by decide +kernel
theorem kd_M_holds_57 : decode kc_M_holds 57 = .ok (.iconst 0, 1) := by decide +kernel
theorem kd_M_holds_58 : decode kc_M_holds 58 = .ok (.istore 4, 2) := by decide +kernel
theorem kd_M_holds_60 : decode kc_M_holds 60 = .ok (.iconst 0, 1) := by decide +kernel
theorem kd_M_holds_61 : decode kc_M_holds 61 = .ok (.istore 5, 2) := by decide +kernel
theorem kd_M_holds_63 : decode kc_M_holds 63 = .ok (.iload 5, 2) := by decide +kernel
theorem kd_M_holds_65 : decode kc_M_holds 65 = .ok (.iconst 4, 1) := by decide +kernel
theorem kd_M_holds_66 : decode kc_M_holds 66 = .ok (.if_icmp .ge 47, 3) := by decide +kernel
theorem kd_M_holds_69 : decode kc_M_holds 69 = .ok (.aload_n 0, 1) := by decide +kernel
theorem kd_M_holds_70 : decode kc_M_holds 70 = .ok (.getfield 22, 3) := by decide +kernel
theorem kd_M_holds_73 : decode kc_M_holds 73 = .ok (.iload_n 1, 1) := by decide +kernel
theorem kd_M_holds_74 : decode kc_M_holds 74 = .ok (.iaload, 1) := by decide +kernel
theorem kd_M_holds_75 : decode kc_M_holds 75 = .ok (.iconst 2, 1) := by decide +kernel
theorem kd_M_holds_76 : decode kc_M_holds 76 = .ok (.if_icmp .ne 37, 3) := by decide +kernel
theorem kd_M_holds_79 : decode kc_M_holds 79 = .ok (.iload 4, 2) := by decide +kernel
theorem kd_M_holds_81 : decode kc_M_holds 81 = .ok (.ifCond .eq 23, 3) := by decide +kernel
theorem kd_M_holds_84 : decode kc_M_holds 84 = .ok (.aload_n 0, 1) := by decide +kernel
theorem kd_M_holds_85 : decode kc_M_holds 85 = .ok (.getfield 73, 3) := by decide +kernel
theorem kd_M_holds_88 : decode kc_M_holds 88 = .ok (.bipush 8, 2) := by decide +kernel
theorem kd_M_holds_90 : decode kc_M_holds 90 = .ok (.iload_n 2, 1) := by decide +kernel
theorem kd_M_holds_91 : decode kc_M_holds 91 = .ok (.imul, 1) := by decide +kernel
theorem kd_M_holds_92 : decode kc_M_holds 92 = .ok (.iload 5, 2) := by decide +kernel
theorem kd_M_holds_94 : decode kc_M_holds 94 = .ok (.iadd, 1) := by decide +kernel
theorem kd_M_holds_95 : decode kc_M_holds 95 = .ok (.iaload, 1) := by decide +kernel
theorem kd_M_holds_96 : decode kc_M_holds 96 = .ok (.iload_n 3, 1) := by decide +kernel
theorem kd_M_holds_97 : decode kc_M_holds 97 = .ok (.if_icmp .gt 7, 3) := by decide +kernel
theorem kd_M_holds_100 : decode kc_M_holds 100 = .ok (.iconst 1, 1) := by decide +kernel
theorem kd_M_holds_101 : decode kc_M_holds 101 = .ok (.goto 4, 3) := by decide +kernel
theorem kd_M_holds_104 : decode kc_M_holds 104 = .ok (.iconst 0, 1) := by decide +kernel
theorem kd_M_holds_105 : decode kc_M_holds 105 = .ok (.istore 4, 2) := by decide +kernel
theorem kd_M_holds_107 : decode kc_M_holds 107 = .ok (.iinc 5 1, 3) := by decide +kernel
theorem kd_M_holds_110 : decode kc_M_holds 110 = .ok (.goto (-47), 3) := by decide +kernel
theorem kd_M_holds_113 : decode kc_M_holds 113 = .ok (.iload 4, 2) := by decide +kernel
theorem kd_M_holds_115 : decode kc_M_holds 115 = .ok (.ireturn, 1) := by decide +kernel
theorem kd_M_fits_0 : decode kc_M_fits 0 = .ok (.iconst 1, 1) := by decide +kernel
theorem kd_M_fits_1 : decode kc_M_fits 1 = .ok (.istore_n 3, 1) := by decide +kernel
theorem kd_M_fits_2 : decode kc_M_fits 2 = .ok (.iconst 0, 1) := by decide +kernel
theorem kd_M_fits_3 : decode kc_M_fits 3 = .ok (.istore 4, 2) := by decide +kernel
theorem kd_M_fits_5 : decode kc_M_fits 5 = .ok (.iload 4, 2) := by decide +kernel
theorem kd_M_fits_7 : decode kc_M_fits 7 = .ok (.aload_n 0, 1) := by decide +kernel
theorem kd_M_fits_8 : decode kc_M_fits 8 = .ok (.getfield 208, 3) := by decide +kernel
theorem kd_M_fits_11 : decode kc_M_fits 11 = .ok (.if_icmp .ge 44, 3) := by decide +kernel
theorem kd_M_fits_14 : decode kc_M_fits 14 = .ok (.iload_n 3, 1) := by decide +kernel
theorem kd_M_fits_15 : decode kc_M_fits 15 = .ok (.ifCond .eq 32, 3) := by decide +kernel
theorem kd_M_fits_18 : decode kc_M_fits 18 = .ok (.aload_n 0, 1) := by decide +kernel
theorem kd_M_fits_19 : decode kc_M_fits 19 = .ok (.iload_n 1, 1) := by decide +kernel
theorem kd_M_fits_20 : decode kc_M_fits 20 = .ok (.aload_n 0, 1) := by decide +kernel
theorem kd_M_fits_21 : decode kc_M_fits 21 = .ok (.getfield 19, 3) := by decide +kernel
theorem kd_M_fits_24 : decode kc_M_fits 24 = .ok (.iload 4, 2) := by decide +kernel
theorem kd_M_fits_26 : decode kc_M_fits 26 = .ok (.iaload, 1) := by decide +kernel
theorem kd_M_fits_27 : decode kc_M_fits 27 = .ok (.invokevirtual 211, 3) := by decide +kernel
theorem kd_M_fits_30 : decode kc_M_fits 30 = .ok (.ifCond .eq 13, 3) := by decide +kernel
theorem kd_M_fits_33 : decode kc_M_fits 33 = .ok (.aload_n 0, 1) := by decide +kernel
theorem kd_M_fits_34 : decode kc_M_fits 34 = .ok (.iload 4, 2) := by decide +kernel
theorem kd_M_fits_36 : decode kc_M_fits 36 = .ok (.iload_n 2, 1) := by decide +kernel
theorem kd_M_fits_37 : decode kc_M_fits 37 = .ok (.invokevirtual 215, 3) := by decide +kernel
theorem kd_M_fits_40 : decode kc_M_fits 40 = .ok (.ifCond .eq 7, 3) := by decide +kernel
theorem kd_M_fits_43 : decode kc_M_fits 43 = .ok (.iconst 1, 1) := by decide +kernel
theorem kd_M_fits_44 : decode kc_M_fits 44 = .ok (.goto 4, 3) := by decide +kernel
theorem kd_M_fits_47 : decode kc_M_fits 47 = .ok (.iconst 0, 1) := by decide +kernel
theorem kd_M_fits_48 : decode kc_M_fits 48 = .ok (.istore_n 3, 1) := by decide +kernel
theorem kd_M_fits_49 : decode kc_M_fits 49 = .ok (.iinc 4 1, 3) := by decide +kernel
theorem kd_M_fits_52 : decode kc_M_fits 52 = .ok (.goto (-47), 3) := by decide +kernel
theorem kd_M_fits_55 : decode kc_M_fits 55 = .ok (.iload_n 3, 1) := by decide +kernel
theorem kd_M_fits_56 : decode kc_M_fits 56 = .ok (.ireturn, 1) := by decide +kernel
theorem kd_M_shareOf_0 : decode kc_M_shareOf 0 = .ok (.iconst 0, 1) := by decide +kernel
theorem kd_M_shareOf_1 : decode kc_M_shareOf 1 = .ok (.istore_n 3, 1) := by decide +kernel
theorem kd_M_shareOf_2 : decode kc_M_shareOf 2 = .ok (.iconst 0, 1) := by decide +kernel
theorem kd_M_shareOf_3 : decode kc_M_shareOf 3 = .ok (.istore 4, 2) := by decide +kernel
theorem kd_M_shareOf_5 : decode kc_M_shareOf 5 = .ok (.iload 4, 2) := by decide +kernel
theorem kd_M_shareOf_7 : decode kc_M_shareOf 7 = .ok (.aload_n 0, 1) := by decide +kernel
theorem kd_M_shareOf_8 : decode kc_M_shareOf 8 = .ok (.getfield 208, 3) := by decide +kernel
theorem kd_M_shareOf_11 : decode kc_M_shareOf 11 = .ok (.if_icmp .ge 67, 3) := by decide +kernel
theorem kd_M_shareOf_14 : decode kc_M_shareOf 14 = .ok (.aload_n 0, 1) := by decide +kernel
theorem kd_M_shareOf_15 : decode kc_M_shareOf 15 = .ok (.getfield 73, 3) := by decide +kernel
theorem kd_M_shareOf_18 : decode kc_M_shareOf 18 = .ok (.bipush 8, 2) := by decide +kernel
theorem kd_M_shareOf_20 : decode kc_M_shareOf 20 = .ok (.iload_n 2, 1) := by decide +kernel
theorem kd_M_shareOf_21 : decode kc_M_shareOf 21 = .ok (.imul, 1) := by decide +kernel
theorem kd_M_shareOf_22 : decode kc_M_shareOf 22 = .ok (.aload_n 0, 1) := by decide +kernel
theorem kd_M_shareOf_23 : decode kc_M_shareOf 23 = .ok (.getfield 25, 3) := by decide +kernel
theorem kd_M_shareOf_26 : decode kc_M_shareOf 26 = .ok (.iload 4, 2) := by decide +kernel
theorem kd_M_shareOf_28 : decode kc_M_shareOf 28 = .ok (.iaload, 1) := by decide +kernel
theorem kd_M_shareOf_29 : decode kc_M_shareOf 29 = .ok (.iadd, 1) := by decide +kernel
theorem kd_M_shareOf_30 : decode kc_M_shareOf 30 = .ok (.iaload, 1) := by decide +kernel
theorem kd_M_shareOf_31 : decode kc_M_shareOf 31 = .ok (.istore 5, 2) := by decide +kernel
theorem kd_M_shareOf_33 : decode kc_M_shareOf 33 = .ok (.aload_n 0, 1) := by decide +kernel
theorem kd_M_shareOf_34 : decode kc_M_shareOf 34 = .ok (.getfield 22, 3) := by decide +kernel
theorem kd_M_shareOf_37 : decode kc_M_shareOf 37 = .ok (.iload 4, 2) := by decide +kernel
theorem kd_M_shareOf_39 : decode kc_M_shareOf 39 = .ok (.iaload, 1) := by decide +kernel
theorem kd_M_shareOf_40 : decode kc_M_shareOf 40 = .ok (.iconst 2, 1) := by decide +kernel
theorem kd_M_shareOf_41 : decode kc_M_shareOf 41 = .ok (.if_icmp .ne 29, 3) := by decide +kernel
theorem kd_M_shareOf_44 : decode kc_M_shareOf 44 = .ok (.aload_n 0, 1) := by decide +kernel
theorem kd_M_shareOf_45 : decode kc_M_shareOf 45 = .ok (.iload_n 1, 1) := by decide +kernel
theorem kd_M_shareOf_46 : decode kc_M_shareOf 46 = .ok (.aload_n 0, 1) := by decide +kernel
theorem kd_M_shareOf_47 : decode kc_M_shareOf 47 = .ok (.getfield 19, 3) := by decide +kernel
theorem kd_M_shareOf_50 : decode kc_M_shareOf 50 = .ok (.iload 4, 2) := by decide +kernel
theorem kd_M_shareOf_52 : decode kc_M_shareOf 52 = .ok (.iaload, 1) := by decide +kernel
theorem kd_M_shareOf_53 : decode kc_M_shareOf 53 = .ok (.invokevirtual 211, 3) := by decide +kernel
theorem kd_M_shareOf_56 : decode kc_M_shareOf 56 = .ok (.ifCond .eq 14, 3) := by decide +kernel
theorem kd_M_shareOf_59 : decode kc_M_shareOf 59 = .ok (.iload 5, 2) := by decide +kernel
theorem kd_M_shareOf_61 : decode kc_M_shareOf 61 = .ok (.iload_n 3, 1) := by decide +kernel
theorem kd_M_shareOf_62 : decode kc_M_shareOf 62 = .ok (.if_icmp .le 8, 3) := by decide +kernel
theorem kd_M_shareOf_65 : decode kc_M_shareOf 65 = .ok (.iload 5, 2) := by decide +kernel
theorem kd_M_shareOf_67 : decode kc_M_shareOf 67 = .ok (.goto 4, 3) := by decide +kernel
theorem kd_M_shareOf_70 : decode kc_M_shareOf 70 = .ok (.iload_n 3, 1) := by decide +kernel
theorem kd_M_shareOf_71 : decode kc_M_shareOf 71 = .ok (.istore_n 3, 1) := by decide +kernel
theorem kd_M_shareOf_72 : decode kc_M_shareOf 72 = .ok (.iinc 4 1, 3) := by decide +kernel
theorem kd_M_shareOf_75 : decode kc_M_shareOf 75 = .ok (.goto (-70), 3) := by decide +kernel
theorem kd_M_shareOf_78 : decode kc_M_shareOf 78 = .ok (.iload_n 3, 1) := by decide +kernel
theorem kd_M_shareOf_79 : decode kc_M_shareOf 79 = .ok (.ireturn, 1) := by decide +kernel
theorem kd_M_classOf_0 : decode kc_M_classOf 0 = .ok (.iconst (-1), 1) := by decide +kernel
theorem kd_M_classOf_1 : decode kc_M_classOf 1 = .ok (.istore_n 2, 1) := by decide +kernel
theorem kd_M_classOf_2 : decode kc_M_classOf 2 = .ok (.iconst 0, 1) := by decide +kernel
theorem kd_M_classOf_3 : decode kc_M_classOf 3 = .ok (.istore_n 3, 1) := by decide +kernel
theorem kd_M_classOf_4 : decode kc_M_classOf 4 = .ok (.iload_n 3, 1) := by decide +kernel
theorem kd_M_classOf_5 : decode kc_M_classOf 5 = .ok (.aload_n 0, 1) := by decide +kernel
theorem kd_M_classOf_6 : decode kc_M_classOf 6 = .ok (.getfield 193, 3) := by decide +kernel
theorem kd_M_classOf_9 : decode kc_M_classOf 9 = .ok (.if_icmp .ge 70, 3) := by decide +kernel
theorem kd_M_classOf_12 : decode kc_M_classOf 12 = .ok (.aload_n 0, 1) := by decide +kernel
theorem kd_M_classOf_13 : decode kc_M_classOf 13 = .ok (.iload_n 3, 1) := by decide +kernel
theorem kd_M_classOf_14 : decode kc_M_classOf 14 = .ok (.iload_n 1, 1) := by decide +kernel
