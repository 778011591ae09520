abbrev kc_D_add : ByteArray := prog_3_method_4_code
def ky_D_add : MethodName := ({ cls := "BorderDesk$Declarations", name := "add", desc := "(II)I" } : Jvm.MethodName)
abbrev kc_D_rowOf : ByteArray := prog_3_method_2_code
def ky_D_rowOf : MethodName := ({ cls := "BorderDesk$Declarations", name := "rowOf", desc := "(II)I" } : Jvm.MethodName)
abbrev kc_D_isInBounds : ByteArray := prog_3_method_3_code
def ky_D_isInBounds : MethodName := ({ cls := "BorderDesk$Declarations", name := "isInBounds", desc := "(II)Z" } : Jvm.MethodName)
abbrev kc_D_addLine : ByteArray := prog_3_method_5_code
def ky_D_addLine : MethodName := ({ cls := "BorderDesk$Declarations", name := "addLine", desc := "(IIIIIIZ)I" } : Jvm.MethodName)
abbrev kc_D_setField : ByteArray := prog_3_method_6_code
def ky_D_setField : MethodName := ({ cls := "BorderDesk$Declarations", name := "setField", desc := "(III)V" } : Jvm.MethodName)
abbrev kc_D_isLater : ByteArray := prog_3_method_8_code
def ky_D_isLater : MethodName := ({ cls := "BorderDesk$Declarations", name := "isLater", desc := "(II)Z" } : Jvm.MethodName)
abbrev kc_D_isLaterAccepted : ByteArray := prog_3_method_7_code
def ky_D_isLaterAccepted : MethodName := ({ cls := "BorderDesk$Declarations", name := "isLaterAccepted", desc := "(I)Z" } : Jvm.MethodName)
abbrev kc_D_dutyOfAll : ByteArray := prog_3_method_9_code
def ky_D_dutyOfAll : MethodName := ({ cls := "BorderDesk$Declarations", name := "dutyOfAll", desc := "(I)J" } : Jvm.MethodName)
abbrev kc_L_add : ByteArray := prog_5_method_2_code
def ky_L_add : MethodName := ({ cls := "BorderDesk$Lots", name := "add", desc := "(IIJZZ)I" } : Jvm.MethodName)
abbrev kc_L_unitsLeft : ByteArray := prog_5_method_3_code
def ky_L_unitsLeft : MethodName := ({ cls := "BorderDesk$Lots", name := "unitsLeft", desc := "(IZ)I" } : Jvm.MethodName)
abbrev kc_L_heldUnitsThatCame : ByteArray := prog_5_method_4_code
def ky_L_heldUnitsThatCame : MethodName := ({ cls := "BorderDesk$Lots", name := "heldUnitsThatCame", desc := "(IZ)I" } : Jvm.MethodName)
abbrev kc_L_dutyGone : ByteArray := prog_5_method_6_code
def ky_L_dutyGone : MethodName := ({ cls := "BorderDesk$Lots", name := "dutyGone", desc := "(I)J" } : Jvm.MethodName)
abbrev kc_L_takeUnits : ByteArray := prog_5_method_5_code
def ky_L_takeUnits : MethodName := ({ cls := "BorderDesk$Lots", name := "takeUnits", desc := "(IIZ)J" } : Jvm.MethodName)
theorem kd_D_add_0 : decode kc_D_add 0 = .ok (.aload_n 0, 1) := by decide +kernel
theorem kd_D_add_1 : decode kc_D_add 1 = .ok (.getfield 67, 3) := by decide +kernel
theorem kd_D_add_4 : decode kc_D_add 4 = .ok (.istore_n 3, 1) := by decide +kernel
theorem kd_D_add_5 : decode kc_D_add 5 = .ok (.aload_n 0, 1) := by decide +kernel
theorem kd_D_add_6 : decode kc_D_add 6 = .ok (.getfield 11, 3) := by decide +kernel
theorem kd_D_add_9 : decode kc_D_add 9 = .ok (.iload_n 3, 1) := by decide +kernel
theorem kd_D_add_10 : decode kc_D_add 10 = .ok (.iload_n 1, 1) := by decide +kernel
theorem kd_D_add_11 : decode kc_D_add 11 = .ok (.iastore, 1) := by decide +kernel
theorem kd_D_add_12 : decode kc_D_add 12 = .ok (.aload_n 0, 1) := by decide +kernel
theorem kd_D_add_13 : decode kc_D_add 13 = .ok (.getfield 15, 3) := by decide +kernel
theorem kd_D_add_16 : decode kc_D_add 16 = .ok (.iload_n 3, 1) := by decide +kernel
theorem kd_D_add_17 : decode kc_D_add 17 = .ok (.iload_n 2, 1) := by decide +kernel
theorem kd_D_add_18 : decode kc_D_add 18 = .ok (.iastore, 1) := by decide +kernel
theorem kd_D_add_19 : decode kc_D_add 19 = .ok (.aload_n 0, 1) := by decide +kernel
theorem kd_D_add_20 : decode kc_D_add 20 = .ok (.dup, 1) := by decide +kernel
theorem kd_D_add_21 : decode kc_D_add 21 = .ok (.getfield 67, 3) := by decide +kernel
theorem kd_D_add_24 : decode kc_D_add 24 = .ok (.iconst 1, 1) := by decide +kernel
theorem kd_D_add_25 : decode kc_D_add 25 = .ok (.iadd, 1) := by decide +kernel
theorem kd_D_add_26 : decode kc_D_add 26 = .ok (.putfield 67, 3) := by decide +kernel
theorem kd_D_add_29 : decode kc_D_add 29 = .ok (.iload_n 3, 1) := by decide +kernel
theorem kd_D_add_30 : decode kc_D_add 30 = .ok (.ireturn, 1) := by decide +kernel
theorem kd_D_rowOf_0 : decode kc_D_rowOf 0 = .ok (.iload_n 0, 1) := by decide +kernel
theorem kd_D_rowOf_1 : decode kc_D_rowOf 1 = .ok (.iconst 4, 1) := by decide +kernel
theorem kd_D_rowOf_2 : decode kc_D_rowOf 2 = .ok (.imul, 1) := by decide +kernel
theorem kd_D_rowOf_3 : decode kc_D_rowOf 3 = .ok (.iload_n 1, 1) := by decide +kernel
theorem kd_D_rowOf_4 : decode kc_D_rowOf 4 = .ok (.iadd, 1) := by decide +kernel
theorem kd_D_rowOf_5 : decode kc_D_rowOf 5 = .ok (.ireturn, 1) := by decide +kernel
theorem kd_D_isInBounds_0 : decode kc_D_isInBounds 0 = .ok (.iload_n 0, 1) := by decide +kernel
theorem kd_D_isInBounds_1 : decode kc_D_isInBounds 1 = .ok (.tableswitch 52 0 2 #[27, 36, 44], 27) := by decide +kernel
theorem kd_D_isInBounds_28 : decode kc_D_isInBounds 28 = .ok (.iload_n 1, 1) := by decide +kernel
theorem kd_D_isInBounds_29 : decode kc_D_isInBounds 29 = .ok (.iconst 1, 1) := by decide +kernel
theorem kd_D_isInBounds_30 : decode kc_D_isInBounds 30 = .ok (.sipush 1000, 3) := by decide +kernel
theorem kd_D_isInBounds_33 : decode kc_D_isInBounds 33 = .ok (.invokestatic 61, 3) := by decide +kernel
theorem kd_D_isInBounds_36 : decode kc_D_isInBounds 36 = .ok (.ireturn, 1) := by decide +kernel
theorem kd_D_isInBounds_37 : decode kc_D_isInBounds 37 = .ok (.iload_n 1, 1) := by decide +kernel
theorem kd_D_isInBounds_38 : decode kc_D_isInBounds 38 = .ok (.iconst 0, 1) := by decide +kernel
theorem kd_D_isInBounds_39 : decode kc_D_isInBounds 39 = .ok (.ldc 65, 2) := by decide +kernel
theorem kd_D_isInBounds_41 : decode kc_D_isInBounds 41 = .ok (.invokestatic 61, 3) := by decide +kernel
theorem kd_D_isInBounds_44 : decode kc_D_isInBounds 44 = .ok (.ireturn, 1) := by decide +kernel
theorem kd_D_isInBounds_45 : decode kc_D_isInBounds 45 = .ok (.iload_n 1, 1) := by decide +kernel
theorem kd_D_isInBounds_46 : decode kc_D_isInBounds 46 = .ok (.iconst 0, 1) := by decide +kernel
theorem kd_D_isInBounds_47 : decode kc_D_isInBounds 47 = .ok (.ldc 66, 2) := by decide +kernel
theorem kd_D_isInBounds_49 : decode kc_D_isInBounds 49 = .ok (.invokestatic 61, 3) := by decide +kernel
theorem kd_D_isInBounds_52 : decode kc_D_isInBounds 52 = .ok (.ireturn, 1) := by decide +kernel
theorem kd_D_isInBounds_53 : decode kc_D_isInBounds 53 = .ok (.iconst 0, 1) := by decide +kernel
theorem kd_D_isInBounds_54 : decode kc_D_isInBounds 54 = .ok (.ireturn, 1) := by decide +kernel
theorem kd_D_addLine_0 : decode kc_D_addLine 0 = .ok (.aload_n 0, 1) := by decide +kernel
theorem kd_D_addLine_1 : decode kc_D_addLine 1 = .ok (.getfield 18, 3) := by decide +kernel
theorem kd_D_addLine_4 : decode kc_D_addLine 4 = .ok (.iload_n 1, 1) := by decide +kernel
theorem kd_D_addLine_5 : decode kc_D_addLine 5 = .ok (.iaload, 1) := by decide +kernel
theorem kd_D_addLine_6 : decode kc_D_addLine 6 = .ok (.istore 8, 2) := by decide +kernel
theorem kd_D_addLine_8 : decode kc_D_addLine 8 = .ok (.iload_n 1, 1) := by decide +kernel
theorem kd_D_addLine_9 : decode kc_D_addLine 9 = .ok (.iload 8, 2) := by decide +kernel
theorem kd_D_addLine_11 : decode kc_D_addLine 11 = .ok (.invokestatic 71, 3) := by decide +kernel
theorem kd_D_addLine_14 : decode kc_D_addLine 14 = .ok (.istore 9, 2) := by decide +kernel
theorem kd_D_addLine_16 : decode kc_D_addLine 16 = .ok (.aload_n 0, 1) := by decide +kernel
theorem kd_D_addLine_17 : decode kc_D_addLine 17 = .ok (.getfield 33, 3) := by decide +kernel
theorem kd_D_addLine_20 : decode kc_D_addLine 20 = .ok (.iload 9, 2) := by decide +kernel
theorem kd_D_addLine_22 : decode kc_D_addLine 22 = .ok (.iload_n 2, 1) := by decide +kernel
theorem kd_D_addLine_23 : decode kc_D_addLine 23 = .ok (.iastore, 1) := by decide +kernel
theorem kd_D_addLine_24 : decode kc_D_addLine 24 = .ok (.aload_n 0, 1) := by decide +kernel
theorem kd_D_addLine_25 : decode kc_D_addLine 25 = .ok (.getfield 36, 3) := by decide +kernel
theorem kd_D_addLine_28 : decode kc_D_addLine 28 = .ok (.iload 9, 2) := by decide +kernel
theorem kd_D_addLine_30 : decode kc_D_addLine 30 = .ok (.iload_n 3, 1) := by decide +kernel
theorem kd_D_addLine_31 : decode kc_D_addLine 31 = .ok (.iastore, 1) := by decide +kernel
theorem kd_D_addLine_32 : decode kc_D_addLine 32 = .ok (.aload_n 0, 1) := by decide +kernel
theorem kd_D_addLine_33 : decode kc_D_addLine 33 = .ok (.getfield 39, 3) := by decide +kernel
theorem kd_D_addLine_36 : decode kc_D_addLine 36 = .ok (.iload 9, 2) := by decide +kernel
theorem kd_D_addLine_38 : decode kc_D_addLine 38 = .ok (.iload 4, 2) := by decide +kernel
theorem kd_D_addLine_40 : decode kc_D_addLine 40 = .ok (.iastore, 1) := by decide +kernel
theorem kd_D_addLine_41 : decode kc_D_addLine 41 = .ok (.aload_n 0, 1) := by decide +kernel
theorem kd_D_addLine_42 : decode kc_D_addLine 42 = .ok (.getfield 42, 3) := by decide +kernel
theorem kd_D_addLine_45 : decode kc_D_addLine 45 = .ok (.iload 9, 2) := by decide +kernel
theorem kd_D_addLine_47 : decode kc_D_addLine 47 = .ok (.iload 5, 2) := by decide +kernel
theorem kd_D_addLine_49 : decode kc_D_addLine 49 = .ok (.iastore, 1) := by decide +kernel
theorem kd_D_addLine_50 : decode kc_D_addLine 50 = .ok (.aload_n 0, 1) := by decide +kernel
theorem kd_D_addLine_51 : decode kc_D_addLine 51 = .ok (.getfield 45, 3) := by decide +kernel
theorem kd_D_addLine_54 : decode kc_D_addLine 54 = .ok (.iload 9, 2) := by decide +kernel
theorem kd_D_addLine_56 : decode kc_D_addLine 56 = .ok (.iload 6, 2) := by decide +kernel
theorem kd_D_addLine_58 : decode kc_D_addLine 58 = .ok (.iastore, 1) := by decide +kernel
theorem kd_D_addLine_59 : decode kc_D_addLine 59 = .ok (.aload_n 0, 1) := by decide +kernel
theorem kd_D_addLine_60 : decode kc_D_addLine 60 = .ok (.getfield 48, 3) := by decide +kernel
theorem kd_D_addLine_63 : decode kc_D_addLine 63 = .ok (.iload 9, 2) := by decide +kernel
theorem kd_D_addLine_65 : decode kc_D_addLine 65 = .ok (.iload 7, 2) := by decide +kernel
theorem kd_D_addLine_67 : decode kc_D_addLine 67 = .ok (.bastore, 1) := by decide +kernel
theorem kd_D_addLine_68 : decode kc_D_addLine 68 = .ok (.aload_n 0, 1) := by decide +kernel
theorem kd_D_addLine_69 : decode kc_D_addLine 69 = .ok (.getfield 18, 3) := by decide +kernel
theorem kd_D_addLine_72 : decode kc_D_addLine 72 = .ok (.iload_n 1, 1) := by decide +kernel
theorem kd_D_addLine_73 : decode kc_D_addLine 73 = .ok (.dup2, 1) := by decide +kernel
theorem kd_D_addLine_74 : decode kc_D_addLine 74 = .ok (.iaload, 1) := by decide +kernel
theorem kd_D_addLine_75 : decode kc_D_addLine 75 = .ok (.iconst 1, 1) := by decide +kernel
theorem kd_D_addLine_76 : decode kc_D_addLine 76 = .ok (.iadd, 1) := by decide +kernel
theorem kd_D_addLine_77 : decode kc_D_addLine 77 = .ok (.iastore, 1) := by decide +kernel
theorem kd_D_addLine_78 : decode kc_D_addLine 78 = .ok (.iload 8, 2) := by decide +kernel
theorem kd_D_addLine_80 : decode kc_D_addLine 80 = .ok (.ireturn, 1) := by decide +kernel
theorem kd_D_setField_0 : decode kc_D_setField 0 = .ok (.iload_n 2, 1) := by decide +kernel
theorem kd_D_setField_1 : decode kc_D_setField 1 = .ok (.lookupswitch 47 #[(0, 27), (1, 37)], 27) := by decide +kernel
theorem kd_D_setField_28 : decode kc_D_setField 28 = .ok (.aload_n 0, 1) := by decide +kernel
theorem kd_D_setField_29 : decode kc_D_setField 29 = .ok (.getfield 39, 3) := by decide +kernel
theorem kd_D_setField_32 : decode kc_D_setField 32 = .ok (.iload_n 1, 1) := by decide +kernel
theorem kd_D_setField_33 : decode kc_D_setField 33 = .ok (.iload_n 3, 1) := by decide +kernel
theorem kd_D_setField_34 : decode kc_D_setField 34 = .ok (.iastore, 1) := by decide +kernel
theorem kd_D_setField_35 : decode kc_D_setField 35 = .ok (.goto 20, 3) := by decide +kernel
theorem kd_D_setField_38 : decode kc_D_setField 38 = .ok (.aload_n 0, 1) := by decide +kernel
theorem kd_D_setField_39 : decode kc_D_setField 39 = .ok (.getfield 42, 3) := by decide +kernel
theorem kd_D_setField_42 : decode kc_D_setField 42 = .ok (.iload_n 1, 1) := by decide +kernel
theorem kd_D_setField_43 : decode kc_D_setField 43 = .ok (.iload_n 3, 1) := by decide +kernel
theorem kd_D_setField_44 : decode kc_D_setField 44 = .ok (.iastore, 1) := by decide +kernel
theorem kd_D_setField_45 : decode kc_D_setField 45 = .ok (.goto 10, 3) := by decide +kernel
theorem kd_D_setField_48 : decode kc_D_setField 48 = .ok (.aload_n 0, 1) := by decide +kernel
theorem kd_D_setField_49 : decode kc_D_setField 49 = .ok (.getfield 45, 3) := by decide +kernel
theorem kd_D_setField_52 : decode kc_D_setField 52 = .ok (.iload_n 1, 1) := by decide +kernel
theorem kd_D_setField_53 : decode kc_D_setField 53 = .ok (.iload_n 3, 1) := by decide +kernel
theorem kd_D_setField_54 : decode kc_D_setField 54 = .ok (.iastore, 1) := by decide +kernel
theorem kd_D_setField_55 : decode kc_D_setField 55 = .ok (.return_, 1) := by decide +kernel
theorem kd_D_isLater_0 : decode kc_D_isLater 0 = .ok (.aload_n 0, 1) := by decide +kernel
theorem kd_D_isLater_1 : decode kc_D_isLater 1 = .ok (.getfield 11, 3) := by decide +kernel
theorem kd_D_isLater_4 : decode kc_D_isLater 4 = .ok (.iload_n 1, 1) := by decide +kernel
theorem kd_D_isLater_5 : decode kc_D_isLater 5 = .ok (.iaload, 1) := by decide +kernel
theorem kd_D_isLater_6 : decode kc_D_isLater 6 = .ok (.aload_n 0, 1) := by decide +kernel
theorem kd_D_isLater_7 : decode kc_D_isLater 7 = .ok (.getfield 11, 3) := by decide +kernel
theorem kd_D_isLater_10 : decode kc_D_isLater 10 = .ok (.iload_n 2, 1) := by decide +kernel
theorem kd_D_isLater_11 : decode kc_D_isLater 11 = .ok (.iaload, 1) := by decide +kernel
theorem kd_D_isLater_12 : decode kc_D_isLater 12 = .ok (.if_icmp .eq 24, 3) := by decide +kernel
theorem kd_D_isLater_15 : decode kc_D_isLater 15 = .ok (.aload_n 0, 1) := by decide +kernel
theorem kd_D_isLater_16 : decode kc_D_isLater 16 = .ok (.getfield 11, 3) := by decide +kernel
theorem kd_D_isLater_19 : decode kc_D_isLater 19 = .ok (.iload_n 1, 1) := by decide +kernel
theorem kd_D_isLater_20 : decode kc_D_isLater 20 = .ok (.iaload, 1) := by decide +kernel
theorem kd_D_isLater_21 : decode kc_D_isLater 21 = .ok (.aload_n 0, 1) := by decide +kernel
theorem kd_D_isLater_22 : decode kc_D_isLater 22 = .ok (.getfield 11, 3) := by decide +kernel
theorem kd_D_isLater_25 : decode kc_D_isLater 25 = .ok (.iload_n 2, 1) := by decide +kernel
theorem kd_D_isLater_26 : decode kc_D_isLater 26 = .ok (.iaload, 1) := by decide +kernel
theorem kd_D_isLater_27 : decode kc_D_isLater 27 = .ok (.if_icmp .le 7, 3) := by decide +kernel
theorem kd_D_isLater_30 : decode kc_D_isLater 30 = .ok (.iconst 1, 1) := by decide +kernel
theorem kd_D_isLater_31 : decode kc_D_isLater 31 = .ok (.goto 4, 3) := by decide +kernel
theorem kd_D_isLater_34 : decode kc_D_isLater 34 = .ok (.iconst 0, 1) := by decide +kernel
theorem kd_D_isLater_35 : decode kc_D_isLater 35 = .ok (.ireturn, 1) := by decide +kernel
theorem kd_D_isLater_36 : decode kc_D_isLater 36 = .ok (.aload_n 0, 1) := by decide +kernel
theorem kd_D_isLater_37 : decode kc_D_isLater 37 = .ok (.getfield 15, 3) := by decide +kernel
theorem kd_D_isLater_40 : decode kc_D_isLater 40 = .ok (.iload_n 1, 1) := by decide +kernel
theorem kd_D_isLater_41 : decode kc_D_isLater 41 = .ok (.iaload, 1) := by decide +kernel
theorem kd_D_isLater_42 : decode kc_D_isLater 42 = .ok (.aload_n 0, 1) := by decide +kernel
theorem kd_D_isLater_43 : decode kc_D_isLater 43 = .ok (.getfield 15, 3) := by decide +kernel
theorem kd_D_isLater_46 : decode kc_D_isLater 46 = .ok (.iload_n 2, 1) := by decide +kernel
theorem kd_D_isLater_47 : decode kc_D_isLater 47 = .ok (.iaload, 1) := by decide +kernel
theorem kd_D_isLater_48 : decode kc_D_isLater 48 = .ok (.if_icmp .eq 24, 3) := by decide +kernel
theorem kd_D_isLater_51 : decode kc_D_isLater 51 = .ok (.aload_n 0, 1) := by decide +kernel
theorem kd_D_isLater_52 : decode kc_D_isLater 52 = .ok (.getfield 15, 3) := by decide +kernel
theorem kd_D_isLater_55 : decode kc_D_isLater 55 = .ok (.iload_n 1, 1) := by decide +kernel
theorem kd_D_isLater_56 : decode kc_D_isLater 56 = .ok (.iaload, 1) := by decide +kernel
theorem kd_D_isLater_57 : decode kc_D_isLater 57 = .ok (.aload_n 0, 1) := by decide +kernel
theorem kd_D_isLater_58 : decode kc_D_isLater 58 = .ok (.getfield 15, 3) := by decide +kernel
theorem kd_D_isLater_61 : decode kc_D_isLater 61 = .ok (.iload_n 2, 1) := by decide +kernel
theorem kd_D_isLater_62 : decode kc_D_isLater 62 = .ok (.iaload, 1) := by decide +kernel
theorem kd_D_isLater_63 : decode kc_D_isLater 63 = .ok (.if_icmp .le 7, 3) := by decide +kernel
theorem kd_D_isLater_66 : decode kc_D_isLater 66 = .ok (.iconst 1, 1) := by decide +kernel
theorem kd_D_isLater_67 : decode kc_D_isLater 67 = .ok (.goto 4, 3) := by decide +kernel
theorem kd_D_isLater_70 : decode kc_D_isLater 70 = .ok (.iconst 0, 1) := by decide +kernel
theorem kd_D_isLater_71 : decode kc_D_isLater 71 = .ok (.ireturn, 1) := by decide +kernel
theorem kd_D_isLater_72 : decode kc_D_isLater 72 = .ok (.iload_n 1, 1) := by decide +kernel
theorem kd_D_isLater_73 : decode kc_D_isLater 73 = .ok (.iload_n 2, 1) := by decide +kernel
theorem kd_D_isLater_74 : decode kc_D_isLater 74 = .ok (.if_icmp .le 7, 3) := by decide +kernel
theorem kd_D_isLater_77 : decode kc_D_isLater 77 = .ok (.iconst 1, 1) := by decide +kernel
theorem kd_D_isLater_78 : decode kc_D_isLater 78 = .ok (.goto 4, 3) := by decide +kernel
theorem kd_D_isLater_81 : decode kc_D_isLater 81 = .ok (.iconst 0, 1) := by decide +kernel
theorem kd_D_isLater_82 : decode kc_D_isLater 82 = .ok (.ireturn, 1) := by decide +kernel
theorem kd_D_isLaterAccepted_0 : decode kc_D_isLaterAccepted 0 = .ok (.iconst 0, 1) := by decide +kernel
theorem kd_D_isLaterAccepted_1 : decode kc_D_isLaterAccepted 1 = .ok (.istore_n 2, 1) := by decide +kernel
theorem kd_D_isLaterAccepted_2 : decode kc_D_isLaterAccepted 2 = .ok (.iload_n 2, 1) := by decide +kernel
theorem kd_D_isLaterAccepted_3 : decode kc_D_isLaterAccepted 3 = .ok (.aload_n 0, 1) := by decide +kernel
theorem kd_D_isLaterAccepted_4 : decode kc_D_isLaterAccepted 4 = .ok (.getfield 67, 3) := by decide +kernel
theorem kd_D_isLaterAccepted_7 : decode kc_D_isLaterAccepted 7 = .ok (.if_icmp .ge 29, 3) := by decide +kernel
theorem kd_D_isLaterAccepted_10 : decode kc_D_isLaterAccepted 10 = .ok (.aload_n 0, 1) := by decide +kernel
theorem kd_D_isLaterAccepted_11 : decode kc_D_isLaterAccepted 11 = .ok (.getfield 26, 3) := by decide +kernel
theorem kd_D_isLaterAccepted_14 : decode kc_D_isLaterAccepted 14 = .ok (.iload_n 2, 1) := by decide +kernel
theorem kd_D_isLaterAccepted_15 : decode kc_D_isLaterAccepted 15 = .ok (.baload, 1) := by decide +kernel
theorem kd_D_isLaterAccepted_16 : decode kc_D_isLaterAccepted 16 = .ok (.ifCond .eq 14, 3) := by decide +kernel
theorem kd_D_isLaterAccepted_19 : decode kc_D_isLaterAccepted 19 = .ok (.aload_n 0, 1) := by decide +kernel
theorem kd_D_isLaterAccepted_20 : decode kc_D_isLaterAccepted 20 = .ok (.iload_n 2, 1) := by decide +kernel
theorem kd_D_isLaterAccepted_21 : decode kc_D_isLaterAccepted 21 = .ok (.iload_n 1, 1) := by decide +kernel
theorem kd_D_isLaterAccepted_22 : decode kc_D_isLaterAccepted 22 = .ok (.invokevirtual 75, 3) := by decide +kernel
theorem kd_D_isLaterAccepted_25 : decode kc_D_isLaterAccepted 25 = .ok (.ifCond .eq 5, 3) := by decide +kernel
theorem kd_D_isLaterAccepted_28 : decode kc_D_isLaterAccepted 28 = .ok (.iconst 1, 1) := by decide +kernel
theorem kd_D_isLaterAccepted_29 : decode kc_D_isLaterAccepted 29 = .ok (.ireturn, 1) := by decide +kernel
theorem kd_D_isLaterAccepted_30 : decode kc_D_isLaterAccepted 30 = .ok (.iinc 2 1, 3) := by decide +kernel
theorem kd_D_isLaterAccepted_33 : decode kc_D_isLaterAccepted 33 = .ok (.goto (-31), 3) := by decide +kernel
theorem kd_D_isLaterAccepted_36 : decode kc_D_isLaterAccepted 36 = .ok (.iconst 0, 1) := by decide +kernel
theorem kd_D_isLaterAccepted_37 : decode kc_D_isLaterAccepted 37 = .ok (.ireturn, 1) := by decide +kernel
theorem kd_D_dutyOfAll_0 : decode kc_D_dutyOfAll 0 = .ok (.lconst 0, 1) := by decide +kernel
theorem kd_D_dutyOfAll_1 : decode kc_D_dutyOfAll 1 = .ok (.lstore_n 2, 1) := by decide +kernel
theorem kd_D_dutyOfAll_2 : decode kc_D_dutyOfAll 2 = .ok (.iconst 0, 1) := by decide +kernel
theorem kd_D_dutyOfAll_3 : decode kc_D_dutyOfAll 3 = .ok (.istore 4, 2) := by decide +kernel
theorem kd_D_dutyOfAll_5 : decode kc_D_dutyOfAll 5 = .ok (.iload 4, 2) := by decide +kernel
theorem kd_D_dutyOfAll_7 : decode kc_D_dutyOfAll 7 = .ok (.aload_n 0, 1) := by decide +kernel
theorem kd_D_dutyOfAll_8 : decode kc_D_dutyOfAll 8 = .ok (.getfield 18, 3) := by decide +kernel
theorem kd_D_dutyOfAll_11 : decode kc_D_dutyOfAll 11 = .ok (.iload_n 1, 1) := by decide +kernel
theorem kd_D_dutyOfAll_12 : decode kc_D_dutyOfAll 12 = .ok (.iaload, 1) := by decide +kernel
theorem kd_D_dutyOfAll_13 : decode kc_D_dutyOfAll 13 = .ok (.if_icmp .ge 23, 3) := by decide +kernel
theorem kd_D_dutyOfAll_16 : decode kc_D_dutyOfAll 16 = .ok (.lload_n 2, 1) := by decide +kernel
theorem kd_D_dutyOfAll_17 : decode kc_D_dutyOfAll 17 = .ok (.aload_n 0, 1) := by decide +kernel
theorem kd_D_dutyOfAll_18 : decode kc_D_dutyOfAll 18 = .ok (.getfield 57, 3) := by decide +kernel
theorem kd_D_dutyOfAll_21 : decode kc_D_dutyOfAll 21 = .ok (.iload_n 1, 1) := by decide +kernel
theorem kd_D_dutyOfAll_22 : decode kc_D_dutyOfAll 22 = .ok (.iload 4, 2) := by decide +kernel
theorem kd_D_dutyOfAll_24 : decode kc_D_dutyOfAll 24 = .ok (.invokestatic 71, 3) := by decide +kernel
theorem kd_D_dutyOfAll_27 : decode kc_D_dutyOfAll 27 = .ok (.laload, 1) := by decide +kernel
theorem kd_D_dutyOfAll_28 : decode kc_D_dutyOfAll 28 = .ok (.ladd, 1) := by decide +kernel
theorem kd_D_dutyOfAll_29 : decode kc_D_dutyOfAll 29 = .ok (.lstore_n 2, 1) := by decide +kernel
theorem kd_D_dutyOfAll_30 : decode kc_D_dutyOfAll 30 = .ok (.iinc 4 1, 3) := by decide +kernel
theorem kd_D_dutyOfAll_33 : decode kc_D_dutyOfAll 33 = .ok (.goto (-28), 3) := by decide +kernel
theorem kd_D_dutyOfAll_36 : decode kc_D_dutyOfAll 36 = .ok (.lload_n 2, 1) := by decide +kernel
theorem kd_D_dutyOfAll_37 : decode kc_D_dutyOfAll 37 = .ok (.lreturn, 1) := by decide +kernel
theorem kd_L_add_0 : decode kc_L_add 0 = .ok (.aload_n 0, 1) := by decide +kernel
theorem kd_L_add_1 : decode kc_L_add 1 = .ok (.getfield 30, 3) := by decide +kernel
theorem kd_L_add_4 : decode kc_L_add 4 = .ok (.istore 7, 2) := by decide +kernel
theorem kd_L_add_6 : decode kc_L_add 6 = .ok (.aload_n 0, 1) := by decide +kernel
theorem kd_L_add_7 : decode kc_L_add 7 = .ok (.getfield 9, 3) := by decide +kernel
theorem kd_L_add_10 : decode kc_L_add 10 = .ok (.iload 7, 2) := by decide +kernel
theorem kd_L_add_12 : decode kc_L_add 12 = .ok (.iload_n 1, 1) := by decide +kernel
theorem kd_L_add_13 : decode kc_L_add 13 = .ok (.iastore, 1) := by decide +kernel
theorem kd_L_add_14 : decode kc_L_add 14 = .ok (.aload_n 0, 1) := by decide +kernel
theorem kd_L_add_15 : decode kc_L_add 15 = .ok (.getfield 13, 3) := by decide +kernel
theorem kd_L_add_18 : decode kc_L_add 18 = .ok (.iload 7, 2) := by decide +kernel
theorem kd_L_add_20 : decode kc_L_add 20 = .ok (.iload_n 2, 1) := by decide +kernel
theorem kd_L_add_21 : decode kc_L_add 21 = .ok (.iastore, 1) := by decide +kernel
