abbrev kc_T_depthUnder : ByteArray := prog_9_method_2_code
def ky_T_depthUnder : MethodName := ({ cls := "BorderDesk$Tariff", name := "depthUnder", desc := "(I)I" } : Jvm.MethodName)
abbrev kc_T_addHeading : ByteArray := prog_9_method_3_code
def ky_T_addHeading : MethodName := ({ cls := "BorderDesk$Tariff", name := "addHeading", desc := "(I)I" } : Jvm.MethodName)
abbrev kc_T_addNote : ByteArray := prog_9_method_4_code
def ky_T_addNote : MethodName := ({ cls := "BorderDesk$Tariff", name := "addNote", desc := "(IIII)I" } : Jvm.MethodName)
abbrev kc_T_holds : ByteArray := prog_9_method_9_code
def ky_T_holds : MethodName := ({ cls := "BorderDesk$Tariff", name := "holds", desc := "(III)Z" } : Jvm.MethodName)
abbrev kc_T_greatestMaterial : ByteArray := prog_9_method_10_code
def ky_T_greatestMaterial : MethodName := ({ cls := "BorderDesk$Tariff", name := "greatestMaterial", desc := "(I)I" } : Jvm.MethodName)
abbrev kc_T_judgeByOwnNotes : ByteArray := prog_9_method_6_code
def ky_T_judgeByOwnNotes : MethodName := ({ cls := "BorderDesk$Tariff", name := "judgeByOwnNotes", desc := "(I)V" } : Jvm.MethodName)
abbrev kc_T_inheritFromParent : ByteArray := prog_9_method_7_code
def ky_T_inheritFromParent : MethodName := ({ cls := "BorderDesk$Tariff", name := "inheritFromParent", desc := "(I)V" } : Jvm.MethodName)
abbrev kc_T_isAsGood : ByteArray := prog_9_method_8_code
def ky_T_isAsGood : MethodName := ({ cls := "BorderDesk$Tariff", name := "isAsGood", desc := "(II)Z" } : Jvm.MethodName)
abbrev kc_T_classOf : ByteArray := prog_9_method_5_code
def ky_T_classOf : MethodName := ({ cls := "BorderDesk$Tariff", name := "classOf", desc := "(I)I" } : Jvm.MethodName)
abbrev kc_T_isSameOrAbove : ByteArray := prog_9_method_11_code
def ky_T_isSameOrAbove : MethodName := ({ cls := "BorderDesk$Tariff", name := "isSameOrAbove", desc := "(II)Z" } : Jvm.MethodName)
abbrev kc_T_headingWithRule : ByteArray := prog_9_method_12_code
def ky_T_headingWithRule : MethodName := ({ cls := "BorderDesk$Tariff", name := "headingWithRule", desc := "(I)I" } : Jvm.MethodName)
theorem kd_T_depthUnder_0 : decode kc_T_depthUnder 0 = .ok (.iload_n 1, 1) := by decide +kernel
theorem kd_T_depthUnder_1 : decode kc_T_depthUnder 1 = .ok (.iconst (-1), 1) := by decide +kernel
theorem kd_T_depthUnder_2 : decode kc_T_depthUnder 2 = .ok (.if_icmp .ne 7, 3) := by decide +kernel
theorem kd_T_depthUnder_5 : decode kc_T_depthUnder 5 = .ok (.iconst 0, 1) := by decide +kernel
theorem kd_T_depthUnder_6 : decode kc_T_depthUnder 6 = .ok (.goto 11, 3) := by decide +kernel
theorem kd_T_depthUnder_9 : decode kc_T_depthUnder 9 = .ok (.aload_n 0, 1) := by decide +kernel
theorem kd_T_depthUnder_10 : decode kc_T_depthUnder 10 = .ok (.getfield 15, 3) := by decide +kernel
theorem kd_T_depthUnder_13 : decode kc_T_depthUnder 13 = .ok (.iload_n 1, 1) := by decide +kernel
theorem kd_T_depthUnder_14 : decode kc_T_depthUnder 14 = .ok (.iaload, 1) := by decide +kernel
theorem kd_T_depthUnder_15 : decode kc_T_depthUnder 15 = .ok (.iconst 1, 1) := by decide +kernel
theorem kd_T_depthUnder_16 : decode kc_T_depthUnder 16 = .ok (.iadd, 1) := by decide +kernel
theorem kd_T_depthUnder_17 : decode kc_T_depthUnder 17 = .ok (.ireturn, 1) := by decide +kernel
theorem kd_T_addHeading_0 : decode kc_T_addHeading 0 = .ok (.aload_n 0, 1) := by decide +kernel
theorem kd_T_addHeading_1 : decode kc_T_addHeading 1 = .ok (.getfield 48, 3) := by decide +kernel
theorem kd_T_addHeading_4 : decode kc_T_addHeading 4 = .ok (.istore_n 2, 1) := by decide +kernel
theorem kd_T_addHeading_5 : decode kc_T_addHeading 5 = .ok (.aload_n 0, 1) := by decide +kernel
theorem kd_T_addHeading_6 : decode kc_T_addHeading 6 = .ok (.getfield 11, 3) := by decide +kernel
theorem kd_T_addHeading_9 : decode kc_T_addHeading 9 = .ok (.iload_n 2, 1) := by decide +kernel
theorem kd_T_addHeading_10 : decode kc_T_addHeading 10 = .ok (.iload_n 1, 1) := by decide +kernel
theorem kd_T_addHeading_11 : decode kc_T_addHeading 11 = .ok (.iastore, 1) := by decide +kernel
theorem kd_T_addHeading_12 : decode kc_T_addHeading 12 = .ok (.aload_n 0, 1) := by decide +kernel
theorem kd_T_addHeading_13 : decode kc_T_addHeading 13 = .ok (.getfield 15, 3) := by decide +kernel
theorem kd_T_addHeading_16 : decode kc_T_addHeading 16 = .ok (.iload_n 2, 1) := by decide +kernel
theorem kd_T_addHeading_17 : decode kc_T_addHeading 17 = .ok (.aload_n 0, 1) := by decide +kernel
theorem kd_T_addHeading_18 : decode kc_T_addHeading 18 = .ok (.iload_n 1, 1) := by decide +kernel
theorem kd_T_addHeading_19 : decode kc_T_addHeading 19 = .ok (.invokevirtual 52, 3) := by decide +kernel
theorem kd_T_addHeading_22 : decode kc_T_addHeading 22 = .ok (.iastore, 1) := by decide +kernel
theorem kd_T_addHeading_23 : decode kc_T_addHeading 23 = .ok (.aload_n 0, 1) := by decide +kernel
theorem kd_T_addHeading_24 : decode kc_T_addHeading 24 = .ok (.getfield 18, 3) := by decide +kernel
theorem kd_T_addHeading_27 : decode kc_T_addHeading 27 = .ok (.iload_n 2, 1) := by decide +kernel
theorem kd_T_addHeading_28 : decode kc_T_addHeading 28 = .ok (.iconst (-1), 1) := by decide +kernel
theorem kd_T_addHeading_29 : decode kc_T_addHeading 29 = .ok (.iastore, 1) := by decide +kernel
theorem kd_T_addHeading_30 : decode kc_T_addHeading 30 = .ok (.aload_n 0, 1) := by decide +kernel
theorem kd_T_addHeading_31 : decode kc_T_addHeading 31 = .ok (.dup, 1) := by decide +kernel
theorem kd_T_addHeading_32 : decode kc_T_addHeading 32 = .ok (.getfield 48, 3) := by decide +kernel
theorem kd_T_addHeading_35 : decode kc_T_addHeading 35 = .ok (.iconst 1, 1) := by decide +kernel
theorem kd_T_addHeading_36 : decode kc_T_addHeading 36 = .ok (.iadd, 1) := by decide +kernel
theorem kd_T_addHeading_37 : decode kc_T_addHeading 37 = .ok (.putfield 48, 3) := by decide +kernel
theorem kd_T_addHeading_40 : decode kc_T_addHeading 40 = .ok (.iload_n 2, 1) := by decide +kernel
theorem kd_T_addHeading_41 : decode kc_T_addHeading 41 = .ok (.ireturn, 1) := by decide +kernel
theorem kd_T_addNote_0 : decode kc_T_addNote 0 = .ok (.aload_n 0, 1) := by decide +kernel
theorem kd_T_addNote_1 : decode kc_T_addNote 1 = .ok (.getfield 56, 3) := by decide +kernel
theorem kd_T_addNote_4 : decode kc_T_addNote 4 = .ok (.istore 5, 2) := by decide +kernel
theorem kd_T_addNote_6 : decode kc_T_addNote 6 = .ok (.aload_n 0, 1) := by decide +kernel
theorem kd_T_addNote_7 : decode kc_T_addNote 7 = .ok (.getfield 24, 3) := by decide +kernel
theorem kd_T_addNote_10 : decode kc_T_addNote 10 = .ok (.iload 5, 2) := by decide +kernel
theorem kd_T_addNote_12 : decode kc_T_addNote 12 = .ok (.iload_n 1, 1) := by decide +kernel
theorem kd_T_addNote_13 : decode kc_T_addNote 13 = .ok (.iastore, 1) := by decide +kernel
theorem kd_T_addNote_14 : decode kc_T_addNote 14 = .ok (.aload_n 0, 1) := by decide +kernel
theorem kd_T_addNote_15 : decode kc_T_addNote 15 = .ok (.getfield 27, 3) := by decide +kernel
theorem kd_T_addNote_18 : decode kc_T_addNote 18 = .ok (.iload 5, 2) := by decide +kernel
theorem kd_T_addNote_20 : decode kc_T_addNote 20 = .ok (.iload_n 2, 1) := by decide +kernel
theorem kd_T_addNote_21 : decode kc_T_addNote 21 = .ok (.iastore, 1) := by decide +kernel
theorem kd_T_addNote_22 : decode kc_T_addNote 22 = .ok (.aload_n 0, 1) := by decide +kernel
theorem kd_T_addNote_23 : decode kc_T_addNote 23 = .ok (.getfield 30, 3) := by decide +kernel
theorem kd_T_addNote_26 : decode kc_T_addNote 26 = .ok (.iload 5, 2) := by decide +kernel
theorem kd_T_addNote_28 : decode kc_T_addNote 28 = .ok (.iload_n 3, 1) := by decide +kernel
theorem kd_T_addNote_29 : decode kc_T_addNote 29 = .ok (.iastore, 1) := by decide +kernel
theorem kd_T_addNote_30 : decode kc_T_addNote 30 = .ok (.aload_n 0, 1) := by decide +kernel
theorem kd_T_addNote_31 : decode kc_T_addNote 31 = .ok (.getfield 33, 3) := by decide +kernel
theorem kd_T_addNote_34 : decode kc_T_addNote 34 = .ok (.iload 5, 2) := by decide +kernel
theorem kd_T_addNote_36 : decode kc_T_addNote 36 = .ok (.iload 4, 2) := by decide +kernel
theorem kd_T_addNote_38 : decode kc_T_addNote 38 = .ok (.iastore, 1) := by decide +kernel
theorem kd_T_addNote_39 : decode kc_T_addNote 39 = .ok (.aload_n 0, 1) := by decide +kernel
theorem kd_T_addNote_40 : decode kc_T_addNote 40 = .ok (.dup, 1) := by decide +kernel
theorem kd_T_addNote_41 : decode kc_T_addNote 41 = .ok (.getfield 56, 3) := by decide +kernel
theorem kd_T_addNote_44 : decode kc_T_addNote 44 = .ok (.iconst 1, 1) := by decide +kernel
theorem kd_T_addNote_45 : decode kc_T_addNote 45 = .ok (.iadd, 1) := by decide +kernel
theorem kd_T_addNote_46 : decode kc_T_addNote 46 = .ok (.putfield 56, 3) := by decide +kernel
theorem kd_T_addNote_49 : decode kc_T_addNote 49 = .ok (.iload 5, 2) := by decide +kernel
theorem kd_T_addNote_51 : decode kc_T_addNote 51 = .ok (.ireturn, 1) := by decide +kernel
theorem kd_T_holds_0 : decode kc_T_holds 0 = .ok (.aload_n 0, 1) := by decide +kernel
theorem kd_T_holds_1 : decode kc_T_holds 1 = .ok (.getfield 27, 3) := by decide +kernel
theorem kd_T_holds_4 : decode kc_T_holds 4 = .ok (.iload_n 1, 1) := by decide +kernel
theorem kd_T_holds_5 : decode kc_T_holds 5 = .ok (.iaload, 1) := by decide +kernel
theorem kd_T_holds_6 : decode kc_T_holds 6 = .ok (.lookupswitch 58 #[(0, 26), (1, 42)], 26) := by decide +kernel
theorem kd_T_holds_32 : decode kc_T_holds 32 = .ok (.iload_n 2, 1) := by decide +kernel
theorem kd_T_holds_33 : decode kc_T_holds 33 = .ok (.aload_n 0, 1) := by decide +kernel
theorem kd_T_holds_34 : decode kc_T_holds 34 = .ok (.getfield 33, 3) := by decide +kernel
theorem kd_T_holds_37 : decode kc_T_holds 37 = .ok (.iload_n 1, 1) := by decide +kernel
theorem kd_T_holds_38 : decode kc_T_holds 38 = .ok (.iaload, 1) := by decide +kernel
theorem kd_T_holds_39 : decode kc_T_holds 39 = .ok (.if_icmp .lt 7, 3) := by decide +kernel
theorem kd_T_holds_42 : decode kc_T_holds 42 = .ok (.iconst 1, 1) := by decide +kernel
theorem kd_T_holds_43 : decode kc_T_holds 43 = .ok (.goto 4, 3) := by decide +kernel
theorem kd_T_holds_46 : decode kc_T_holds 46 = .ok (.iconst 0, 1) := by decide +kernel
theorem kd_T_holds_47 : decode kc_T_holds 47 = .ok (.ireturn, 1) := by decide +kernel
theorem kd_T_holds_48 : decode kc_T_holds 48 = .ok (.iload_n 2, 1) := by decide +kernel
theorem kd_T_holds_49 : decode kc_T_holds 49 = .ok (.aload_n 0, 1) := by decide +kernel
theorem kd_T_holds_50 : decode kc_T_holds 50 = .ok (.getfield 33, 3) := by decide +kernel
theorem kd_T_holds_53 : decode kc_T_holds 53 = .ok (.iload_n 1, 1) := by decide +kernel
theorem kd_T_holds_54 : decode kc_T_holds 54 = .ok (.iaload, 1) := by decide +kernel
theorem kd_T_holds_55 : decode kc_T_holds 55 = .ok (.if_icmp .ge 7, 3) := by decide +kernel
theorem kd_T_holds_58 : decode kc_T_holds 58 = .ok (.iconst 1, 1) := by decide +kernel
theorem kd_T_holds_59 : decode kc_T_holds 59 = .ok (.goto 4, 3) := by decide +kernel
theorem kd_T_holds_62 : decode kc_T_holds 62 = .ok (.iconst 0, 1) := by decide +kernel
theorem kd_T_holds_63 : decode kc_T_holds 63 = .ok (.ireturn, 1) := by decide +kernel
theorem kd_T_holds_64 : decode kc_T_holds 64 = .ok (.iload_n 2, 1) := by decide +kernel
theorem kd_T_holds_65 : decode kc_T_holds 65 = .ok (.aload_n 0, 1) := by decide +kernel
theorem kd_T_holds_66 : decode kc_T_holds 66 = .ok (.getfield 33, 3) := by decide +kernel
theorem kd_T_holds_69 : decode kc_T_holds 69 = .ok (.iload_n 1, 1) := by decide +kernel
theorem kd_T_holds_70 : decode kc_T_holds 70 = .ok (.iaload, 1) := by decide +kernel
theorem kd_T_holds_71 : decode kc_T_holds 71 = .ok (.if_icmp .lt 12, 3) := by decide +kernel
theorem kd_T_holds_74 : decode kc_T_holds 74 = .ok (.iload_n 2, 1) := by decide +kernel
theorem kd_T_holds_75 : decode kc_T_holds 75 = .ok (.iload_n 3, 1) := by decide +kernel
theorem kd_T_holds_76 : decode kc_T_holds 76 = .ok (.if_icmp .lt 7, 3) := by decide +kernel
theorem kd_T_holds_79 : decode kc_T_holds 79 = .ok (.iconst 1, 1) := by decide +kernel
theorem kd_T_holds_80 : decode kc_T_holds 80 = .ok (.goto 4, 3) := by decide +kernel
theorem kd_T_holds_83 : decode kc_T_holds 83 = .ok (.iconst 0, 1) := by decide +kernel
theorem kd_T_holds_84 : decode kc_T_holds 84 = .ok (.ireturn, 1) := by decide +kernel
theorem kd_T_greatestMaterial_0 : decode kc_T_greatestMaterial 0 = .ok (.iconst 0, 1) := by decide +kernel
theorem kd_T_greatestMaterial_1 : decode kc_T_greatestMaterial 1 = .ok (.istore_n 2, 1) := by decide +kernel
theorem kd_T_greatestMaterial_2 : decode kc_T_greatestMaterial 2 = .ok (.iconst 0, 1) := by decide +kernel
theorem kd_T_greatestMaterial_3 : decode kc_T_greatestMaterial 3 = .ok (.istore_n 3, 1) := by decide +kernel
theorem kd_T_greatestMaterial_4 : decode kc_T_greatestMaterial 4 = .ok (.iload_n 3, 1) := by decide +kernel
theorem kd_T_greatestMaterial_5 : decode kc_T_greatestMaterial 5 = .ok (.iconst 4, 1) := by decide +kernel
theorem kd_T_greatestMaterial_6 : decode kc_T_greatestMaterial 6 = .ok (.if_icmp .ge 22, 3) := by decide +kernel
theorem kd_T_greatestMaterial_9 : decode kc_T_greatestMaterial 9 = .ok (.iload_n 2, 1) := by decide +kernel
theorem kd_T_greatestMaterial_10 : decode kc_T_greatestMaterial 10 = .ok (.aload_n 0, 1) := by decide +kernel
theorem kd_T_greatestMaterial_11 : decode kc_T_greatestMaterial 11 = .ok (.getfield 38, 3) := by decide +kernel
theorem kd_T_greatestMaterial_14 : decode kc_T_greatestMaterial 14 = .ok (.iload_n 1, 1) := by decide +kernel
theorem kd_T_greatestMaterial_15 : decode kc_T_greatestMaterial 15 = .ok (.aaload, 1) := by decide +kernel
theorem kd_T_greatestMaterial_16 : decode kc_T_greatestMaterial 16 = .ok (.iload_n 3, 1) := by decide +kernel
theorem kd_T_greatestMaterial_17 : decode kc_T_greatestMaterial 17 = .ok (.iaload, 1) := by decide +kernel
theorem kd_T_greatestMaterial_18 : decode kc_T_greatestMaterial 18 = .ok (.invokestatic 77, 3) := by decide +kernel
theorem kd_T_greatestMaterial_21 : decode kc_T_greatestMaterial 21 = .ok (.istore_n 2, 1) := by decide +kernel
theorem kd_T_greatestMaterial_22 : decode kc_T_greatestMaterial 22 = .ok (.iinc 3 1, 3) := by decide +kernel
theorem kd_T_greatestMaterial_25 : decode kc_T_greatestMaterial 25 = .ok (.goto (-21), 3) := by decide +kernel
theorem kd_T_greatestMaterial_28 : decode kc_T_greatestMaterial 28 = .ok (.iload_n 2, 1) := by decide +kernel
theorem kd_T_greatestMaterial_29 : decode kc_T_greatestMaterial 29 = .ok (.ireturn, 1) := by decide +kernel
theorem kd_T_judgeByOwnNotes_0 : decode kc_T_judgeByOwnNotes 0 = .ok (.iconst 0, 1) := by decide +kernel
theorem kd_T_judgeByOwnNotes_1 : decode kc_T_judgeByOwnNotes 1 = .ok (.istore_n 2, 1) := by decide +kernel
theorem kd_T_judgeByOwnNotes_2 : decode kc_T_judgeByOwnNotes 2 = .ok (.iload_n 2, 1) := by decide +kernel
theorem kd_T_judgeByOwnNotes_3 : decode kc_T_judgeByOwnNotes 3 = .ok (.aload_n 0, 1) := by decide +kernel
theorem kd_T_judgeByOwnNotes_4 : decode kc_T_judgeByOwnNotes 4 = .ok (.getfield 48, 3) := by decide +kernel
theorem kd_T_judgeByOwnNotes_7 : decode kc_T_judgeByOwnNotes 7 = .ok (.if_icmp .ge 23, 3) := by decide +kernel
theorem kd_T_judgeByOwnNotes_10 : decode kc_T_judgeByOwnNotes 10 = .ok (.aload_n 0, 1) := by decide +kernel
theorem kd_T_judgeByOwnNotes_11 : decode kc_T_judgeByOwnNotes 11 = .ok (.getfield 41, 3) := by decide +kernel
theorem kd_T_judgeByOwnNotes_14 : decode kc_T_judgeByOwnNotes 14 = .ok (.iload_n 2, 1) := by decide +kernel
theorem kd_T_judgeByOwnNotes_15 : decode kc_T_judgeByOwnNotes 15 = .ok (.iconst 1, 1) := by decide +kernel
theorem kd_T_judgeByOwnNotes_16 : decode kc_T_judgeByOwnNotes 16 = .ok (.bastore, 1) := by decide +kernel
theorem kd_T_judgeByOwnNotes_17 : decode kc_T_judgeByOwnNotes 17 = .ok (.aload_n 0, 1) := by decide +kernel
theorem kd_T_judgeByOwnNotes_18 : decode kc_T_judgeByOwnNotes 18 = .ok (.getfield 45, 3) := by decide +kernel
theorem kd_T_judgeByOwnNotes_21 : decode kc_T_judgeByOwnNotes 21 = .ok (.iload_n 2, 1) := by decide +kernel
theorem kd_T_judgeByOwnNotes_22 : decode kc_T_judgeByOwnNotes 22 = .ok (.iconst 0, 1) := by decide +kernel
theorem kd_T_judgeByOwnNotes_23 : decode kc_T_judgeByOwnNotes 23 = .ok (.iastore, 1) := by decide +kernel
theorem kd_T_judgeByOwnNotes_24 : decode kc_T_judgeByOwnNotes 24 = .ok (.iinc 2 1, 3) := by decide +kernel
theorem kd_T_judgeByOwnNotes_27 : decode kc_T_judgeByOwnNotes 27 = .ok (.goto (-25), 3) := by decide +kernel
theorem kd_T_judgeByOwnNotes_30 : decode kc_T_judgeByOwnNotes 30 = .ok (.aload_n 0, 1) := by decide +kernel
theorem kd_T_judgeByOwnNotes_31 : decode kc_T_judgeByOwnNotes 31 = .ok (.iload_n 1, 1) := by decide +kernel
theorem kd_T_judgeByOwnNotes_32 : decode kc_T_judgeByOwnNotes 32 = .ok (.invokevirtual 70, 3) := by decide +kernel
theorem kd_T_judgeByOwnNotes_35 : decode kc_T_judgeByOwnNotes 35 = .ok (.istore_n 2, 1) := by decide +kernel
theorem kd_T_judgeByOwnNotes_36 : decode kc_T_judgeByOwnNotes 36 = .ok (.iconst 0, 1) := by decide +kernel
theorem kd_T_judgeByOwnNotes_37 : decode kc_T_judgeByOwnNotes 37 = .ok (.istore_n 3, 1) := by decide +kernel
theorem kd_T_judgeByOwnNotes_38 : decode kc_T_judgeByOwnNotes 38 = .ok (.iload_n 3, 1) := by decide +kernel
theorem kd_T_judgeByOwnNotes_39 : decode kc_T_judgeByOwnNotes 39 = .ok (.aload_n 0, 1) := by decide +kernel
theorem kd_T_judgeByOwnNotes_40 : decode kc_T_judgeByOwnNotes 40 = .ok (.getfield 56, 3) := by decide +kernel
theorem kd_T_judgeByOwnNotes_43 : decode kc_T_judgeByOwnNotes 43 = .ok (.if_icmp .ge 80, 3) := by decide +kernel
theorem kd_T_judgeByOwnNotes_46 : decode kc_T_judgeByOwnNotes 46 = .ok (.aload_n 0, 1) := by decide +kernel
theorem kd_T_judgeByOwnNotes_47 : decode kc_T_judgeByOwnNotes 47 = .ok (.getfield 24, 3) := by decide +kernel
theorem kd_T_judgeByOwnNotes_50 : decode kc_T_judgeByOwnNotes 50 = .ok (.iload_n 3, 1) := by decide +kernel
theorem kd_T_judgeByOwnNotes_51 : decode kc_T_judgeByOwnNotes 51 = .ok (.iaload, 1) := by decide +kernel
theorem kd_T_judgeByOwnNotes_52 : decode kc_T_judgeByOwnNotes 52 = .ok (.istore 4, 2) := by decide +kernel
theorem kd_T_judgeByOwnNotes_54 : decode kc_T_judgeByOwnNotes 54 = .ok (.aload_n 0, 1) := by decide +kernel
theorem kd_T_judgeByOwnNotes_55 : decode kc_T_judgeByOwnNotes 55 = .ok (.getfield 38, 3) := by decide +kernel
theorem kd_T_judgeByOwnNotes_58 : decode kc_T_judgeByOwnNotes 58 = .ok (.iload_n 1, 1) := by decide +kernel
theorem kd_T_judgeByOwnNotes_59 : decode kc_T_judgeByOwnNotes 59 = .ok (.aaload, 1) := by decide +kernel
theorem kd_T_judgeByOwnNotes_60 : decode kc_T_judgeByOwnNotes 60 = .ok (.aload_n 0, 1) := by decide +kernel
theorem kd_T_judgeByOwnNotes_61 : decode kc_T_judgeByOwnNotes 61 = .ok (.getfield 30, 3) := by decide +kernel
theorem kd_T_judgeByOwnNotes_64 : decode kc_T_judgeByOwnNotes 64 = .ok (.iload_n 3, 1) := by decide +kernel
theorem kd_T_judgeByOwnNotes_65 : decode kc_T_judgeByOwnNotes 65 = .ok (.iaload, 1) := by decide +kernel
theorem kd_T_judgeByOwnNotes_66 : decode kc_T_judgeByOwnNotes 66 = .ok (.iaload, 1) := by decide +kernel
theorem kd_T_judgeByOwnNotes_67 : decode kc_T_judgeByOwnNotes 67 = .ok (.istore 5, 2) := by decide +kernel
theorem kd_T_judgeByOwnNotes_69 : decode kc_T_judgeByOwnNotes 69 = .ok (.aload_n 0, 1) := by decide +kernel
theorem kd_T_judgeByOwnNotes_70 : decode kc_T_judgeByOwnNotes 70 = .ok (.iload_n 3, 1) := by decide +kernel
theorem kd_T_judgeByOwnNotes_71 : decode kc_T_judgeByOwnNotes 71 = .ok (.iload 5, 2) := by decide +kernel
theorem kd_T_judgeByOwnNotes_73 : decode kc_T_judgeByOwnNotes 73 = .ok (.iload_n 2, 1) := by decide +kernel
theorem kd_T_judgeByOwnNotes_74 : decode kc_T_judgeByOwnNotes 74 = .ok (.invokevirtual 73, 3) := by decide +kernel
theorem kd_T_judgeByOwnNotes_77 : decode kc_T_judgeByOwnNotes 77 = .ok (.ifCond .ne 11, 3) := by decide +kernel
theorem kd_T_judgeByOwnNotes_80 : decode kc_T_judgeByOwnNotes 80 = .ok (.aload_n 0, 1) := by decide +kernel
theorem kd_T_judgeByOwnNotes_81 : decode kc_T_judgeByOwnNotes 81 = .ok (.getfield 41, 3) := by decide +kernel
theorem kd_T_judgeByOwnNotes_84 : decode kc_T_judgeByOwnNotes 84 = .ok (.iload 4, 2) := by decide +kernel
theorem kd_T_judgeByOwnNotes_86 : decode kc_T_judgeByOwnNotes 86 = .ok (.iconst 0, 1) := by decide +kernel
theorem kd_T_judgeByOwnNotes_87 : decode kc_T_judgeByOwnNotes 87 = .ok (.bastore, 1) := by decide +kernel
theorem kd_T_judgeByOwnNotes_88 : decode kc_T_judgeByOwnNotes 88 = .ok (.aload_n 0, 1) := by decide +kernel
theorem kd_T_judgeByOwnNotes_89 : decode kc_T_judgeByOwnNotes 89 = .ok (.getfield 27, 3) := by decide +kernel
theorem kd_T_judgeByOwnNotes_92 : decode kc_T_judgeByOwnNotes 92 = .ok (.iload_n 3, 1) := by decide +kernel
theorem kd_T_judgeByOwnNotes_93 : decode kc_T_judgeByOwnNotes 93 = .ok (.iaload, 1) := by decide +kernel
theorem kd_T_judgeByOwnNotes_94 : decode kc_T_judgeByOwnNotes 94 = .ok (.iconst 2, 1) := by decide +kernel
theorem kd_T_judgeByOwnNotes_95 : decode kc_T_judgeByOwnNotes 95 = .ok (.if_icmp .ne 22, 3) := by decide +kernel
theorem kd_T_judgeByOwnNotes_98 : decode kc_T_judgeByOwnNotes 98 = .ok (.aload_n 0, 1) := by decide +kernel
theorem kd_T_judgeByOwnNotes_99 : decode kc_T_judgeByOwnNotes 99 = .ok (.getfield 45, 3) := by decide +kernel
theorem kd_T_judgeByOwnNotes_102 : decode kc_T_judgeByOwnNotes 102 = .ok (.iload 4, 2) := by decide +kernel
theorem kd_T_judgeByOwnNotes_104 : decode kc_T_judgeByOwnNotes 104 = .ok (.aload_n 0, 1) := by decide +kernel
theorem kd_T_judgeByOwnNotes_105 : decode kc_T_judgeByOwnNotes 105 = .ok (.getfield 45, 3) := by decide +kernel
theorem kd_T_judgeByOwnNotes_108 : decode kc_T_judgeByOwnNotes 108 = .ok (.iload 4, 2) := by decide +kernel
theorem kd_T_judgeByOwnNotes_110 : decode kc_T_judgeByOwnNotes 110 = .ok (.iaload, 1) := by decide +kernel
theorem kd_T_judgeByOwnNotes_111 : decode kc_T_judgeByOwnNotes 111 = .ok (.iload 5, 2) := by decide +kernel
theorem kd_T_judgeByOwnNotes_113 : decode kc_T_judgeByOwnNotes 113 = .ok (.invokestatic 77, 3) := by decide +kernel
theorem kd_T_judgeByOwnNotes_116 : decode kc_T_judgeByOwnNotes 116 = .ok (.iastore, 1) := by decide +kernel
theorem kd_T_judgeByOwnNotes_117 : decode kc_T_judgeByOwnNotes 117 = .ok (.iinc 3 1, 3) := by decide +kernel
theorem kd_T_judgeByOwnNotes_120 : decode kc_T_judgeByOwnNotes 120 = .ok (.goto (-82), 3) := by decide +kernel
theorem kd_T_judgeByOwnNotes_123 : decode kc_T_judgeByOwnNotes 123 = .ok (.return_, 1) := by decide +kernel
theorem kd_T_inheritFromParent_0 : decode kc_T_inheritFromParent 0 = .ok (.aload_n 0, 1) := by decide +kernel
theorem kd_T_inheritFromParent_1 : decode kc_T_inheritFromParent 1 = .ok (.getfield 11, 3) := by decide +kernel
theorem kd_T_inheritFromParent_4 : decode kc_T_inheritFromParent 4 = .ok (.iload_n 1, 1) := by decide +kernel
theorem kd_T_inheritFromParent_5 : decode kc_T_inheritFromParent 5 = .ok (.iaload, 1) := by decide +kernel
theorem kd_T_inheritFromParent_6 : decode kc_T_inheritFromParent 6 = .ok (.istore_n 2, 1) := by decide +kernel
theorem kd_T_inheritFromParent_7 : decode kc_T_inheritFromParent 7 = .ok (.iload_n 2, 1) := by decide +kernel
theorem kd_T_inheritFromParent_8 : decode kc_T_inheritFromParent 8 = .ok (.iconst (-1), 1) := by decide +kernel
theorem kd_T_inheritFromParent_9 : decode kc_T_inheritFromParent 9 = .ok (.if_icmp .eq 53, 3) := by decide +kernel
theorem kd_T_inheritFromParent_12 : decode kc_T_inheritFromParent 12 = .ok (.aload_n 0, 1) := by decide +kernel
theorem kd_T_inheritFromParent_13 : decode kc_T_inheritFromParent 13 = .ok (.getfield 41, 3) := by decide +kernel
theorem kd_T_inheritFromParent_16 : decode kc_T_inheritFromParent 16 = .ok (.iload_n 1, 1) := by decide +kernel
theorem kd_T_inheritFromParent_17 : decode kc_T_inheritFromParent 17 = .ok (.aload_n 0, 1) := by decide +kernel
theorem kd_T_inheritFromParent_18 : decode kc_T_inheritFromParent 18 = .ok (.getfield 41, 3) := by decide +kernel
theorem kd_T_inheritFromParent_21 : decode kc_T_inheritFromParent 21 = .ok (.iload_n 1, 1) := by decide +kernel
theorem kd_T_inheritFromParent_22 : decode kc_T_inheritFromParent 22 = .ok (.baload, 1) := by decide +kernel
theorem kd_T_inheritFromParent_23 : decode kc_T_inheritFromParent 23 = .ok (.ifCond .eq 16, 3) := by decide +kernel
theorem kd_T_inheritFromParent_26 : decode kc_T_inheritFromParent 26 = .ok (.aload_n 0, 1) := by decide +kernel
theorem kd_T_inheritFromParent_27 : decode kc_T_inheritFromParent 27 = .ok (.getfield 41, 3) := by decide +kernel
theorem kd_T_inheritFromParent_30 : decode kc_T_inheritFromParent 30 = .ok (.iload_n 2, 1) := by decide +kernel
theorem kd_T_inheritFromParent_31 : decode kc_T_inheritFromParent 31 = .ok (.baload, 1) := by decide +kernel
theorem kd_T_inheritFromParent_32 : decode kc_T_inheritFromParent 32 = .ok (.ifCond .eq 7, 3) := by decide +kernel
theorem kd_T_inheritFromParent_35 : decode kc_T_inheritFromParent 35 = .ok (.iconst 1, 1) := by decide +kernel
theorem kd_T_inheritFromParent_36 : decode kc_T_inheritFromParent 36 = .ok (.goto 4, 3) := by decide +kernel
theorem kd_T_inheritFromParent_39 : decode kc_T_inheritFromParent 39 = .ok (.iconst 0, 1) := by decide +kernel
theorem kd_T_inheritFromParent_40 : decode kc_T_inheritFromParent 40 = .ok (.bastore, 1) := by decide +kernel
theorem kd_T_inheritFromParent_41 : decode kc_T_inheritFromParent 41 = .ok (.aload_n 0, 1) := by decide +kernel
