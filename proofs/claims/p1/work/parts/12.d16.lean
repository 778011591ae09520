abbrev kc_M_thrown : ByteArray := prog_11_method_2_code
def ky_M_thrown : MethodName := ({ cls := "BorderDeskModel", name := "thrown", desc := "()I" } : Jvm.MethodName)
abbrev kc_M_within : ByteArray := prog_11_method_3_code
def ky_M_within : MethodName := ({ cls := "BorderDeskModel", name := "within", desc := "(III)Z" } : Jvm.MethodName)
abbrev kc_M_isHeading : ByteArray := prog_11_method_4_code
def ky_M_isHeading : MethodName := ({ cls := "BorderDeskModel", name := "isHeading", desc := "(I)Z" } : Jvm.MethodName)
abbrev kc_M_classOf : ByteArray := prog_11_method_13_code
def ky_M_classOf : MethodName := ({ cls := "BorderDeskModel", name := "classOf", desc := "(I)I" } : Jvm.MethodName)
abbrev kc_M_heading : ByteArray := prog_11_method_6_code
def ky_M_heading : MethodName := ({ cls := "BorderDeskModel", name := "heading", desc := "(I)I" } : Jvm.MethodName)
abbrev kc_M_note : ByteArray := prog_11_method_7_code
def ky_M_note : MethodName := ({ cls := "BorderDeskModel", name := "note", desc := "(IIII)I" } : Jvm.MethodName)
abbrev kc_M_fact : ByteArray := prog_11_method_8_code
def ky_M_fact : MethodName := ({ cls := "BorderDeskModel", name := "fact", desc := "(III)I" } : Jvm.MethodName)
abbrev kc_M_classify : ByteArray := prog_11_method_14_code
def ky_M_classify : MethodName := ({ cls := "BorderDeskModel", name := "classify", desc := "(I)I" } : Jvm.MethodName)
abbrev kc_M_rate : ByteArray := prog_11_method_15_code
def ky_M_rate : MethodName := ({ cls := "BorderDeskModel", name := "rate", desc := "(IIIIIII)I" } : Jvm.MethodName)
abbrev kc_M_rateFor : ByteArray := prog_11_method_18_code
def ky_M_rateFor : MethodName := ({ cls := "BorderDeskModel", name := "rateFor", desc := "(III)I" } : Jvm.MethodName)
abbrev kc_M_quota : ByteArray := prog_11_method_19_code
def ky_M_quota : MethodName := ({ cls := "BorderDeskModel", name := "quota", desc := "(IIIIII)I" } : Jvm.MethodName)
abbrev kc_M_quotaLeft : ByteArray := prog_11_method_21_code
def ky_M_quotaLeft : MethodName := ({ cls := "BorderDeskModel", name := "quotaLeft", desc := "(I)I" } : Jvm.MethodName)
abbrev kc_M_reaches : ByteArray := prog_11_method_22_code
def ky_M_reaches : MethodName := ({ cls := "BorderDeskModel", name := "reaches", desc := "(II)Z" } : Jvm.MethodName)
abbrev kc_M_part : ByteArray := prog_11_method_23_code
def ky_M_part : MethodName := ({ cls := "BorderDeskModel", name := "part", desc := "(IIII)I" } : Jvm.MethodName)
abbrev kc_M_zone : ByteArray := prog_11_method_24_code
def ky_M_zone : MethodName := ({ cls := "BorderDeskModel", name := "zone", desc := "(II)V" } : Jvm.MethodName)
abbrev kc_M_rule : ByteArray := prog_11_method_25_code
def ky_M_rule : MethodName := ({ cls := "BorderDeskModel", name := "rule", desc := "(III)V" } : Jvm.MethodName)
abbrev kc_M_isMade : ByteArray := prog_11_method_26_code
def ky_M_isMade : MethodName := ({ cls := "BorderDeskModel", name := "isMade", desc := "(II)Z" } : Jvm.MethodName)
abbrev kc_M_madeIn : ByteArray := prog_11_method_27_code
def ky_M_madeIn : MethodName := ({ cls := "BorderDeskModel", name := "madeIn", desc := "(II)Z" } : Jvm.MethodName)
abbrev kc_M_isDeclaration : ByteArray := prog_11_method_28_code
def ky_M_isDeclaration : MethodName := ({ cls := "BorderDeskModel", name := "isDeclaration", desc := "(I)Z" } : Jvm.MethodName)
abbrev kc_M_isLine : ByteArray := prog_11_method_29_code
def ky_M_isLine : MethodName := ({ cls := "BorderDeskModel", name := "isLine", desc := "(II)Z" } : Jvm.MethodName)
abbrev kc_M_declare : ByteArray := prog_11_method_30_code
def ky_M_declare : MethodName := ({ cls := "BorderDeskModel", name := "declare", desc := "(II)I" } : Jvm.MethodName)
abbrev kc_M_isField : ByteArray := prog_11_method_31_code
def ky_M_isField : MethodName := ({ cls := "BorderDeskModel", name := "isField", desc := "(II)Z" } : Jvm.MethodName)
abbrev kc_M_line : ByteArray := prog_11_method_32_code
def ky_M_line : MethodName := ({ cls := "BorderDeskModel", name := "line", desc := "(IIIIIIZ)I" } : Jvm.MethodName)
abbrev kc_M_charge : ByteArray := prog_11_method_33_code
def ky_M_charge : MethodName := ({ cls := "BorderDeskModel", name := "charge", desc := "(III)V" } : Jvm.MethodName)
abbrev kc_M_lineOf : ByteArray := prog_11_method_42_code
def ky_M_lineOf : MethodName := ({ cls := "BorderDeskModel", name := "lineOf", desc := "(III)J" } : Jvm.MethodName)
abbrev kc_M_accept : ByteArray := prog_11_method_45_code
def ky_M_accept : MethodName := ({ cls := "BorderDeskModel", name := "accept", desc := "(I)J" } : Jvm.MethodName)
abbrev kc_M_amend : ByteArray := prog_11_method_47_code
def ky_M_amend : MethodName := ({ cls := "BorderDeskModel", name := "amend", desc := "(IIII)J" } : Jvm.MethodName)
abbrev kc_M_left : ByteArray := prog_11_method_48_code
def ky_M_left : MethodName := ({ cls := "BorderDeskModel", name := "left", desc := "(IZ)I" } : Jvm.MethodName)
abbrev kc_M_release : ByteArray := prog_11_method_50_code
def ky_M_release : MethodName := ({ cls := "BorderDeskModel", name := "release", desc := "(II)J" } : Jvm.MethodName)
abbrev kc_M_export : ByteArray := prog_11_method_51_code
def ky_M_export : MethodName := ({ cls := "BorderDeskModel", name := "export", desc := "(II)J" } : Jvm.MethodName)
abbrev kc_M_work : ByteArray := prog_11_method_52_code
def ky_M_work : MethodName := ({ cls := "BorderDeskModel", name := "work", desc := "(IIII)I" } : Jvm.MethodName)
abbrev kc_M_lot : ByteArray := prog_11_method_53_code
def ky_M_lot : MethodName := ({ cls := "BorderDeskModel", name := "lot", desc := "(II)J" } : Jvm.MethodName)
abbrev kc_M_came : ByteArray := prog_11_method_54_code
def ky_M_came : MethodName := ({ cls := "BorderDeskModel", name := "came", desc := "(IZ)I" } : Jvm.MethodName)
abbrev kc_M_account : ByteArray := prog_11_method_55_code
def ky_M_account : MethodName := ({ cls := "BorderDeskModel", name := "account", desc := "(II)J" } : Jvm.MethodName)
abbrev kc_M_books : ByteArray := prog_11_method_56_code
def ky_M_books : MethodName := ({ cls := "BorderDeskModel", name := "books", desc := "(I)J" } : Jvm.MethodName)
theorem kd_M_thrown_0 : decode kc_M_thrown 0 = .ok (.aload_n 0, 1) := by decide +kernel
theorem kd_M_thrown_1 : decode kc_M_thrown 1 = .ok (.getfield 190, 3) := by decide +kernel
theorem kd_M_thrown_4 : decode kc_M_thrown 4 = .ok (.ireturn, 1) := by decide +kernel
theorem kd_M_within_0 : decode kc_M_within 0 = .ok (.iload_n 0, 1) := by decide +kernel
theorem kd_M_within_1 : decode kc_M_within 1 = .ok (.iload_n 1, 1) := by decide +kernel
theorem kd_M_within_2 : decode kc_M_within 2 = .ok (.if_icmp .lt 12, 3) := by decide +kernel
theorem kd_M_within_5 : decode kc_M_within 5 = .ok (.iload_n 0, 1) := by decide +kernel
theorem kd_M_within_6 : decode kc_M_within 6 = .ok (.iload_n 2, 1) := by decide +kernel
theorem kd_M_within_7 : decode kc_M_within 7 = .ok (.if_icmp .gt 7, 3) := by decide +kernel
theorem kd_M_within_10 : decode kc_M_within 10 = .ok (.iconst 1, 1) := by decide +kernel
theorem kd_M_within_11 : decode kc_M_within 11 = .ok (.goto 4, 3) := by decide +kernel
theorem kd_M_within_14 : decode kc_M_within 14 = .ok (.iconst 0, 1) := by decide +kernel
theorem kd_M_within_15 : decode kc_M_within 15 = .ok (.ireturn, 1) := by decide +kernel
theorem kd_M_isHeading_0 : decode kc_M_isHeading 0 = .ok (.iload_n 1, 1) := by decide +kernel
theorem kd_M_isHeading_1 : decode kc_M_isHeading 1 = .ok (.ifCond .lt 15, 3) := by decide +kernel
theorem kd_M_isHeading_4 : decode kc_M_isHeading 4 = .ok (.iload_n 1, 1) := by decide +kernel
theorem kd_M_isHeading_5 : decode kc_M_isHeading 5 = .ok (.aload_n 0, 1) := by decide +kernel
theorem kd_M_isHeading_6 : decode kc_M_isHeading 6 = .ok (.getfield 193, 3) := by decide +kernel
theorem kd_M_isHeading_9 : decode kc_M_isHeading 9 = .ok (.if_icmp .ge 7, 3) := by decide +kernel
theorem kd_M_isHeading_12 : decode kc_M_isHeading 12 = .ok (.iconst 1, 1) := by decide +kernel
theorem kd_M_isHeading_13 : decode kc_M_isHeading 13 = .ok (.goto 4, 3) := by decide +kernel
theorem kd_M_isHeading_16 : decode kc_M_isHeading 16 = .ok (.iconst 0, 1) := by decide +kernel
theorem kd_M_isHeading_17 : decode kc_M_isHeading 17 = .ok (.ireturn, 1) := by decide +kernel
theorem kd_M_classOf_0 : decode kc_M_classOf 0 = .ok (.iconst (-1), 1) := by decide +kernel
theorem kd_M_classOf_1 : decode kc_M_classOf 1 = .ok (.istore_n 2, 1) := by decide +kernel
theorem kd_M_classOf_2 : decode kc_M_classOf 2 = .ok (.iconst 0, 1) := by decide +kernel
theorem kd_M_classOf_3 : decode kc_M_classOf 3 = .ok (.istore_n 3, 1) := by decide +kernel
theorem kd_M_classOf_4 : decode kc_M_classOf 4 = .ok (.iload_n 3, 1) := by decide +kernel
theorem kd_M_classOf_5 : decode kc_M_classOf 5 = .ok (.aload_n 0, 1) := by decide +kernel
theorem kd_M_classOf_6 : decode kc_M_classOf 6 = .ok (.getfield 193, 3) := by decide +kernel
theorem kd_M_classOf_9 : decode kc_M_classOf 9 = .ok (.if_icmp .ge 70, 3) := by decide +kernel
theorem kd_M_classOf_12 : decode kc_M_classOf 12 = .ok (.aload_n 0, 1) := by decide +kernel
theorem kd_M_classOf_13 : decode kc_M_classOf 13 = .ok (.iload_n 3, 1) := by decide +kernel
theorem kd_M_classOf_14 : decode kc_M_classOf 14 = .ok (.iload_n 1, 1) := by decide +kernel
theorem kd_M_classOf_15 : decode kc_M_classOf 15 = .ok (.invokevirtual 218, 3) := by decide +kernel
theorem kd_M_classOf_18 : decode kc_M_classOf 18 = .ok (.ifCond .eq 55, 3) := by decide +kernel
theorem kd_M_classOf_21 : decode kc_M_classOf 21 = .ok (.iload_n 2, 1) := by decide +kernel
theorem kd_M_classOf_22 : decode kc_M_classOf 22 = .ok (.ifCond .ge 7, 3) := by decide +kernel
theorem kd_M_classOf_25 : decode kc_M_classOf 25 = .ok (.iconst 1, 1) := by decide +kernel
theorem kd_M_classOf_26 : decode kc_M_classOf 26 = .ok (.goto 14, 3) := by decide +kernel
theorem kd_M_classOf_29 : decode kc_M_classOf 29 = .ok (.aload_n 0, 1) := by decide +kernel
theorem kd_M_classOf_30 : decode kc_M_classOf 30 = .ok (.iload_n 3, 1) := by decide +kernel
theorem kd_M_classOf_31 : decode kc_M_classOf 31 = .ok (.invokevirtual 200, 3) := by decide +kernel
theorem kd_M_classOf_34 : decode kc_M_classOf 34 = .ok (.aload_n 0, 1) := by decide +kernel
theorem kd_M_classOf_35 : decode kc_M_classOf 35 = .ok (.iload_n 2, 1) := by decide +kernel
theorem kd_M_classOf_36 : decode kc_M_classOf 36 = .ok (.invokevirtual 200, 3) := by decide +kernel
theorem kd_M_classOf_39 : decode kc_M_classOf 39 = .ok (.isub, 1) := by decide +kernel
theorem kd_M_classOf_40 : decode kc_M_classOf 40 = .ok (.istore 4, 2) := by decide +kernel
theorem kd_M_classOf_42 : decode kc_M_classOf 42 = .ok (.iload 4, 2) := by decide +kernel
theorem kd_M_classOf_44 : decode kc_M_classOf 44 = .ok (.ifCond .gt 23, 3) := by decide +kernel
theorem kd_M_classOf_47 : decode kc_M_classOf 47 = .ok (.iload 4, 2) := by decide +kernel
theorem kd_M_classOf_49 : decode kc_M_classOf 49 = .ok (.ifCond .ne 22, 3) := by decide +kernel
theorem kd_M_classOf_52 : decode kc_M_classOf 52 = .ok (.aload_n 0, 1) := by decide +kernel
theorem kd_M_classOf_53 : decode kc_M_classOf 53 = .ok (.iload_n 3, 1) := by decide +kernel
theorem kd_M_classOf_54 : decode kc_M_classOf 54 = .ok (.iload_n 1, 1) := by decide +kernel
theorem kd_M_classOf_55 : decode kc_M_classOf 55 = .ok (.invokevirtual 221, 3) := by decide +kernel
theorem kd_M_classOf_58 : decode kc_M_classOf 58 = .ok (.aload_n 0, 1) := by decide +kernel
theorem kd_M_classOf_59 : decode kc_M_classOf 59 = .ok (.iload_n 2, 1) := by decide +kernel
theorem kd_M_classOf_60 : decode kc_M_classOf 60 = .ok (.iload_n 1, 1) := by decide +kernel
theorem kd_M_classOf_61 : decode kc_M_classOf 61 = .ok (.invokevirtual 221, 3) := by decide +kernel
theorem kd_M_classOf_64 : decode kc_M_classOf 64 = .ok (.if_icmp .lt 7, 3) := by decide +kernel
theorem kd_M_classOf_67 : decode kc_M_classOf 67 = .ok (.iload_n 3, 1) := by decide +kernel
theorem kd_M_classOf_68 : decode kc_M_classOf 68 = .ok (.goto 4, 3) := by decide +kernel
theorem kd_M_classOf_71 : decode kc_M_classOf 71 = .ok (.iload_n 2, 1) := by decide +kernel
theorem kd_M_classOf_72 : decode kc_M_classOf 72 = .ok (.istore_n 2, 1) := by decide +kernel
theorem kd_M_classOf_73 : decode kc_M_classOf 73 = .ok (.iinc 3 1, 3) := by decide +kernel
theorem kd_M_classOf_76 : decode kc_M_classOf 76 = .ok (.goto (-72), 3) := by decide +kernel
theorem kd_M_classOf_79 : decode kc_M_classOf 79 = .ok (.iload_n 2, 1) := by decide +kernel
theorem kd_M_classOf_80 : decode kc_M_classOf 80 = .ok (.ireturn, 1) := by decide +kernel
theorem kd_M_heading_0 : decode kc_M_heading 0 = .ok (.aload_n 0, 1) := by decide +kernel
theorem kd_M_heading_1 : decode kc_M_heading 1 = .ok (.iload_n 1, 1) := by decide +kernel
theorem kd_M_heading_2 : decode kc_M_heading 2 = .ok (.iconst (-1), 1) := by decide +kernel
theorem kd_M_heading_3 : decode kc_M_heading 3 = .ok (.if_icmp .eq 15, 3) := by decide +kernel
theorem kd_M_heading_6 : decode kc_M_heading 6 = .ok (.aload_n 0, 1) := by decide +kernel
theorem kd_M_heading_7 : decode kc_M_heading 7 = .ok (.iload_n 1, 1) := by decide +kernel
theorem kd_M_heading_8 : decode kc_M_heading 8 = .ok (.invokevirtual 196, 3) := by decide +kernel
theorem kd_M_heading_11 : decode kc_M_heading 11 = .ok (.ifCond .ne 7, 3) := by decide +kernel
theorem kd_M_heading_14 : decode kc_M_heading 14 = .ok (.iconst 1, 1) := by decide +kernel
theorem kd_M_heading_15 : decode kc_M_heading 15 = .ok (.goto 30, 3) := by decide +kernel
theorem kd_M_heading_18 : decode kc_M_heading 18 = .ok (.aload_n 0, 1) := by decide +kernel
theorem kd_M_heading_19 : decode kc_M_heading 19 = .ok (.getfield 193, 3) := by decide +kernel
theorem kd_M_heading_22 : decode kc_M_heading 22 = .ok (.bipush 24, 2) := by decide +kernel
theorem kd_M_heading_24 : decode kc_M_heading 24 = .ok (.if_icmp .eq 16, 3) := by decide +kernel
theorem kd_M_heading_27 : decode kc_M_heading 27 = .ok (.iload_n 1, 1) := by decide +kernel
theorem kd_M_heading_28 : decode kc_M_heading 28 = .ok (.ifCond .lt 16, 3) := by decide +kernel
theorem kd_M_heading_31 : decode kc_M_heading 31 = .ok (.aload_n 0, 1) := by decide +kernel
theorem kd_M_heading_32 : decode kc_M_heading 32 = .ok (.iload_n 1, 1) := by decide +kernel
theorem kd_M_heading_33 : decode kc_M_heading 33 = .ok (.invokevirtual 200, 3) := by decide +kernel
theorem kd_M_heading_36 : decode kc_M_heading 36 = .ok (.iconst 5, 1) := by decide +kernel
theorem kd_M_heading_37 : decode kc_M_heading 37 = .ok (.if_icmp .ne 7, 3) := by decide +kernel
theorem kd_M_heading_40 : decode kc_M_heading 40 = .ok (.iconst 2, 1) := by decide +kernel
theorem kd_M_heading_41 : decode kc_M_heading 41 = .ok (.goto 4, 3) := by decide +kernel
theorem kd_M_heading_44 : decode kc_M_heading 44 = .ok (.iconst 0, 1) := by decide +kernel
theorem kd_M_heading_45 : decode kc_M_heading 45 = .ok (.putfield 190, 3) := by decide +kernel
theorem kd_M_heading_48 : decode kc_M_heading 48 = .ok (.aload_n 0, 1) := by decide +kernel
theorem kd_M_heading_49 : decode kc_M_heading 49 = .ok (.getfield 190, 3) := by decide +kernel
theorem kd_M_heading_52 : decode kc_M_heading 52 = .ok (.ifCond .le 5, 3) := by decide +kernel
theorem kd_M_heading_55 : decode kc_M_heading 55 = .ok (.iconst 0, 1) := by decide +kernel
theorem kd_M_heading_56 : decode kc_M_heading 56 = .ok (.ireturn, 1) := by decide +kernel
theorem kd_M_heading_57 : decode kc_M_heading 57 = .ok (.aload_n 0, 1) := by decide +kernel
theorem kd_M_heading_58 : decode kc_M_heading 58 = .ok (.getfield 7, 3) := by decide +kernel
theorem kd_M_heading_61 : decode kc_M_heading 61 = .ok (.aload_n 0, 1) := by decide +kernel
theorem kd_M_heading_62 : decode kc_M_heading 62 = .ok (.getfield 193, 3) := by decide +kernel
theorem kd_M_heading_65 : decode kc_M_heading 65 = .ok (.iload_n 1, 1) := by decide +kernel
theorem kd_M_heading_66 : decode kc_M_heading 66 = .ok (.iastore, 1) := by decide +kernel
theorem kd_M_heading_67 : decode kc_M_heading 67 = .ok (.aload_n 0, 1) := by decide +kernel
theorem kd_M_heading_68 : decode kc_M_heading 68 = .ok (.getfield 13, 3) := by decide +kernel
theorem kd_M_heading_71 : decode kc_M_heading 71 = .ok (.aload_n 0, 1) := by decide +kernel
theorem kd_M_heading_72 : decode kc_M_heading 72 = .ok (.getfield 193, 3) := by decide +kernel
theorem kd_M_heading_75 : decode kc_M_heading 75 = .ok (.iconst (-1), 1) := by decide +kernel
theorem kd_M_heading_76 : decode kc_M_heading 76 = .ok (.iastore, 1) := by decide +kernel
theorem kd_M_heading_77 : decode kc_M_heading 77 = .ok (.aload_n 0, 1) := by decide +kernel
theorem kd_M_heading_78 : decode kc_M_heading 78 = .ok (.dup, 1) := by decide +kernel
theorem kd_M_heading_79 : decode kc_M_heading 79 = .ok (.getfield 193, 3) := by decide +kernel
theorem kd_M_heading_82 : decode kc_M_heading 82 = .ok (.iconst 1, 1) := by decide +kernel
theorem kd_M_heading_83 : decode kc_M_heading 83 = .ok (.iadd, 1) := by decide +kernel
theorem kd_M_heading_84 : decode kc_M_heading 84 = .ok (.putfield 193, 3) := by decide +kernel
theorem kd_M_heading_87 : decode kc_M_heading 87 = .ok (.aload_n 0, 1) := by decide +kernel
theorem kd_M_heading_88 : decode kc_M_heading 88 = .ok (.getfield 193, 3) := by decide +kernel
theorem kd_M_heading_91 : decode kc_M_heading 91 = .ok (.iconst 1, 1) := by decide +kernel
theorem kd_M_heading_92 : decode kc_M_heading 92 = .ok (.isub, 1) := by decide +kernel
theorem kd_M_heading_93 : decode kc_M_heading 93 = .ok (.ireturn, 1) := by decide +kernel
theorem kd_M_note_0 : decode kc_M_note 0 = .ok (.aload_n 0, 1) := by decide +kernel
theorem kd_M_note_1 : decode kc_M_note 1 = .ok (.iload_n 1, 1) := by decide +kernel
theorem kd_M_note_2 : decode kc_M_note 2 = .ok (.invokevirtual 196, 3) := by decide +kernel
theorem kd_M_note_5 : decode kc_M_note 5 = .ok (.ifCond .eq 47, 3) := by decide +kernel
theorem kd_M_note_8 : decode kc_M_note 8 = .ok (.iload_n 2, 1) := by decide +kernel
theorem kd_M_note_9 : decode kc_M_note 9 = .ok (.iconst 0, 1) := by decide +kernel
theorem kd_M_note_10 : decode kc_M_note 10 = .ok (.iconst 2, 1) := by decide +kernel
theorem kd_M_note_11 : decode kc_M_note 11 = .ok (.invokestatic 204, 3) := by decide +kernel
theorem kd_M_note_14 : decode kc_M_note 14 = .ok (.ifCond .eq 38, 3) := by decide +kernel
theorem kd_M_note_17 : decode kc_M_note 17 = .ok (.iload_n 3, 1) := by decide +kernel
theorem kd_M_note_18 : decode kc_M_note 18 = .ok (.iconst 0, 1) := by decide +kernel
theorem kd_M_note_19 : decode kc_M_note 19 = .ok (.iload_n 2, 1) := by decide +kernel
theorem kd_M_note_20 : decode kc_M_note 20 = .ok (.iconst 2, 1) := by decide +kernel
theorem kd_M_note_21 : decode kc_M_note 21 = .ok (.if_icmp .ne 7, 3) := by decide +kernel
theorem kd_M_note_24 : decode kc_M_note 24 = .ok (.iconst 3, 1) := by decide +kernel
theorem kd_M_note_25 : decode kc_M_note 25 = .ok (.goto 5, 3) := by decide +kernel
theorem kd_M_note_28 : decode kc_M_note 28 = .ok (.bipush 7, 2) := by decide +kernel
theorem kd_M_note_30 : decode kc_M_note 30 = .ok (.invokestatic 204, 3) := by decide +kernel
theorem kd_M_note_33 : decode kc_M_note 33 = .ok (.ifCond .eq 19, 3) := by decide +kernel
theorem kd_M_note_36 : decode kc_M_note 36 = .ok (.iload 4, 2) := by decide +kernel
theorem kd_M_note_38 : decode kc_M_note 38 = .ok (.iconst 1, 1) := by decide +kernel
theorem kd_M_note_39 : decode kc_M_note 39 = .ok (.sipush 1000, 3) := by decide +kernel
theorem kd_M_note_42 : decode kc_M_note 42 = .ok (.invokestatic 204, 3) := by decide +kernel
theorem kd_M_note_45 : decode kc_M_note 45 = .ok (.ifCond .eq 7, 3) := by decide +kernel
theorem kd_M_note_48 : decode kc_M_note 48 = .ok (.iconst 1, 1) := by decide +kernel
theorem kd_M_note_49 : decode kc_M_note 49 = .ok (.goto 4, 3) := by decide +kernel
theorem kd_M_note_52 : decode kc_M_note 52 = .ok (.iconst 0, 1) := by decide +kernel
theorem kd_M_note_53 : decode kc_M_note 53 = .ok (.istore 5, 2) := by decide +kernel
theorem kd_M_note_55 : decode kc_M_note 55 = .ok (.aload_n 0, 1) := by decide +kernel
theorem kd_M_note_56 : decode kc_M_note 56 = .ok (.iload 5, 2) := by decide +kernel
theorem kd_M_note_58 : decode kc_M_note 58 = .ok (.ifCond .ne 7, 3) := by decide +kernel
theorem kd_M_note_61 : decode kc_M_note 61 = .ok (.iconst 1, 1) := by decide +kernel
theorem kd_M_note_62 : decode kc_M_note 62 = .ok (.goto 17, 3) := by decide +kernel
theorem kd_M_note_65 : decode kc_M_note 65 = .ok (.aload_n 0, 1) := by decide +kernel
theorem kd_M_note_66 : decode kc_M_note 66 = .ok (.getfield 208, 3) := by decide +kernel
theorem kd_M_note_69 : decode kc_M_note 69 = .ok (.bipush 40, 2) := by decide +kernel
theorem kd_M_note_71 : decode kc_M_note 71 = .ok (.if_icmp .ne 7, 3) := by decide +kernel
theorem kd_M_note_74 : decode kc_M_note 74 = .ok (.iconst 2, 1) := by decide +kernel
theorem kd_M_note_75 : decode kc_M_note 75 = .ok (.goto 4, 3) := by decide +kernel
theorem kd_M_note_78 : decode kc_M_note 78 = .ok (.iconst 0, 1) := by decide +kernel
theorem kd_M_note_79 : decode kc_M_note 79 = .ok (.putfield 190, 3) := by decide +kernel
theorem kd_M_note_82 : decode kc_M_note 82 = .ok (.aload_n 0, 1) := by decide +kernel
theorem kd_M_note_83 : decode kc_M_note 83 = .ok (.getfield 190, 3) := by decide +kernel
theorem kd_M_note_86 : decode kc_M_note 86 = .ok (.ifCond .le 5, 3) := by decide +kernel
theorem kd_M_note_89 : decode kc_M_note 89 = .ok (.iconst 0, 1) := by decide +kernel
theorem kd_M_note_90 : decode kc_M_note 90 = .ok (.ireturn, 1) := by decide +kernel
theorem kd_M_note_91 : decode kc_M_note 91 = .ok (.aload_n 0, 1) := by decide +kernel
theorem kd_M_note_92 : decode kc_M_note 92 = .ok (.getfield 19, 3) := by decide +kernel
theorem kd_M_note_95 : decode kc_M_note 95 = .ok (.aload_n 0, 1) := by decide +kernel
theorem kd_M_note_96 : decode kc_M_note 96 = .ok (.getfield 208, 3) := by decide +kernel
theorem kd_M_note_99 : decode kc_M_note 99 = .ok (.iload_n 1, 1) := by decide +kernel
theorem kd_M_note_100 : decode kc_M_note 100 = .ok (.iastore, 1) := by decide +kernel
theorem kd_M_note_101 : decode kc_M_note 101 = .ok (.aload_n 0, 1) := by decide +kernel
theorem kd_M_note_102 : decode kc_M_note 102 = .ok (.getfield 22, 3) := by decide +kernel
theorem kd_M_note_105 : decode kc_M_note 105 = .ok (.aload_n 0, 1) := by decide +kernel
theorem kd_M_note_106 : decode kc_M_note 106 = .ok (.getfield 208, 3) := by decide +kernel
theorem kd_M_note_109 : decode kc_M_note 109 = .ok (.iload_n 2, 1) := by decide +kernel
theorem kd_M_note_110 : decode kc_M_note 110 = .ok (.iastore, 1) := by decide +kernel
