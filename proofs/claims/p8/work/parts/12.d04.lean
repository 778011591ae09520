abbrev kc_I_bitCount : ByteArray := prog_15_method_49_code
def ky_I_bitCount : MethodName := ({ cls := "java/lang/Integer", name := "bitCount", desc := "(I)I" } : Jvm.MethodName)
abbrev kc_B_isBelow : ByteArray := prog_1_method_36_code
def ky_B_isBelow : MethodName := ({ cls := "BorderDesk", name := "isBelow", desc := "(II)Z" } : Jvm.MethodName)
abbrev kc_B_isWithin : ByteArray := prog_1_method_37_code
def ky_B_isWithin : MethodName := ({ cls := "BorderDesk", name := "isWithin", desc := "(III)Z" } : Jvm.MethodName)
abbrev kc_B_isGood : ByteArray := prog_1_method_32_code
def ky_B_isGood : MethodName := ({ cls := "BorderDesk", name := "isGood", desc := "(I)Z" } : Jvm.MethodName)
abbrev kc_B_isLand : ByteArray := prog_1_method_33_code
def ky_B_isLand : MethodName := ({ cls := "BorderDesk", name := "isLand", desc := "(I)Z" } : Jvm.MethodName)
abbrev kc_B_isDay : ByteArray := prog_1_method_34_code
def ky_B_isDay : MethodName := ({ cls := "BorderDesk", name := "isDay", desc := "(I)Z" } : Jvm.MethodName)
abbrev kc_B_isFact : ByteArray := prog_1_method_35_code
def ky_B_isFact : MethodName := ({ cls := "BorderDesk", name := "isFact", desc := "(I)Z" } : Jvm.MethodName)
abbrev kc_B_requireArgument : ByteArray := prog_1_method_38_code
def ky_B_requireArgument : MethodName := ({ cls := "BorderDesk", name := "requireArgument", desc := "(Z)V" } : Jvm.MethodName)
abbrev kc_B_requireState : ByteArray := prog_1_method_39_code
def ky_B_requireState : MethodName := ({ cls := "BorderDesk", name := "requireState", desc := "(Z)V" } : Jvm.MethodName)
abbrev kc_B_requireElement : ByteArray := prog_1_method_40_code
def ky_B_requireElement : MethodName := ({ cls := "BorderDesk", name := "requireElement", desc := "(Z)V" } : Jvm.MethodName)
abbrev kc_B_requireRoom : ByteArray := prog_1_method_41_code
def ky_B_requireRoom : MethodName := ({ cls := "BorderDesk", name := "requireRoom", desc := "(I)V" } : Jvm.MethodName)
abbrev kc_B_isHeading : ByteArray := prog_1_method_29_code
def ky_B_isHeading : MethodName := ({ cls := "BorderDesk", name := "isHeading", desc := "(I)Z" } : Jvm.MethodName)
abbrev kc_B_isDeclaration : ByteArray := prog_1_method_30_code
def ky_B_isDeclaration : MethodName := ({ cls := "BorderDesk", name := "isDeclaration", desc := "(I)Z" } : Jvm.MethodName)
abbrev kc_B_isLine : ByteArray := prog_1_method_31_code
def ky_B_isLine : MethodName := ({ cls := "BorderDesk", name := "isLine", desc := "(II)Z" } : Jvm.MethodName)
theorem kd_I_bitCount_0 : decode kc_I_bitCount 0 = .ok (.iload_n 0, 1) := by decide +kernel
theorem kd_I_bitCount_1 : decode kc_I_bitCount 1 = .ok (.iload_n 0, 1) := by decide +kernel
theorem kd_I_bitCount_2 : decode kc_I_bitCount 2 = .ok (.iconst 1, 1) := by decide +kernel
theorem kd_I_bitCount_3 : decode kc_I_bitCount 3 = .ok (.iushr, 1) := by decide +kernel
theorem kd_I_bitCount_4 : decode kc_I_bitCount 4 = .ok (.ldc_w 265, 3) := by decide +kernel
theorem kd_I_bitCount_7 : decode kc_I_bitCount 7 = .ok (.iand, 1) := by decide +kernel
theorem kd_I_bitCount_8 : decode kc_I_bitCount 8 = .ok (.isub, 1) := by decide +kernel
theorem kd_I_bitCount_9 : decode kc_I_bitCount 9 = .ok (.istore_n 0, 1) := by decide +kernel
theorem kd_I_bitCount_10 : decode kc_I_bitCount 10 = .ok (.iload_n 0, 1) := by decide +kernel
theorem kd_I_bitCount_11 : decode kc_I_bitCount 11 = .ok (.ldc_w 266, 3) := by decide +kernel
theorem kd_I_bitCount_14 : decode kc_I_bitCount 14 = .ok (.iand, 1) := by decide +kernel
theorem kd_I_bitCount_15 : decode kc_I_bitCount 15 = .ok (.iload_n 0, 1) := by decide +kernel
theorem kd_I_bitCount_16 : decode kc_I_bitCount 16 = .ok (.iconst 2, 1) := by decide +kernel
theorem kd_I_bitCount_17 : decode kc_I_bitCount 17 = .ok (.iushr, 1) := by decide +kernel
theorem kd_I_bitCount_18 : decode kc_I_bitCount 18 = .ok (.ldc_w 266, 3) := by decide +kernel
theorem kd_I_bitCount_21 : decode kc_I_bitCount 21 = .ok (.iand, 1) := by decide +kernel
theorem kd_I_bitCount_22 : decode kc_I_bitCount 22 = .ok (.iadd, 1) := by decide +kernel
theorem kd_I_bitCount_23 : decode kc_I_bitCount 23 = .ok (.istore_n 0, 1) := by decide +kernel
theorem kd_I_bitCount_24 : decode kc_I_bitCount 24 = .ok (.iload_n 0, 1) := by decide +kernel
theorem kd_I_bitCount_25 : decode kc_I_bitCount 25 = .ok (.iload_n 0, 1) := by decide +kernel
theorem kd_I_bitCount_26 : decode kc_I_bitCount 26 = .ok (.iconst 4, 1) := by decide +kernel
theorem kd_I_bitCount_27 : decode kc_I_bitCount 27 = .ok (.iushr, 1) := by decide +kernel
theorem kd_I_bitCount_28 : decode kc_I_bitCount 28 = .ok (.iadd, 1) := by decide +kernel
theorem kd_I_bitCount_29 : decode kc_I_bitCount 29 = .ok (.ldc_w 267, 3) := by decide +kernel
theorem kd_I_bitCount_32 : decode kc_I_bitCount 32 = .ok (.iand, 1) := by decide +kernel
theorem kd_I_bitCount_33 : decode kc_I_bitCount 33 = .ok (.istore_n 0, 1) := by decide +kernel
theorem kd_I_bitCount_34 : decode kc_I_bitCount 34 = .ok (.iload_n 0, 1) := by decide +kernel
theorem kd_I_bitCount_35 : decode kc_I_bitCount 35 = .ok (.iload_n 0, 1) := by decide +kernel
theorem kd_I_bitCount_36 : decode kc_I_bitCount 36 = .ok (.bipush 8, 2) := by decide +kernel
theorem kd_I_bitCount_38 : decode kc_I_bitCount 38 = .ok (.iushr, 1) := by decide +kernel
theorem kd_I_bitCount_39 : decode kc_I_bitCount 39 = .ok (.iadd, 1) := by decide +kernel
theorem kd_I_bitCount_40 : decode kc_I_bitCount 40 = .ok (.istore_n 0, 1) := by decide +kernel
theorem kd_I_bitCount_41 : decode kc_I_bitCount 41 = .ok (.iload_n 0, 1) := by decide +kernel
theorem kd_I_bitCount_42 : decode kc_I_bitCount 42 = .ok (.iload_n 0, 1) := by decide +kernel
theorem kd_I_bitCount_43 : decode kc_I_bitCount 43 = .ok (.bipush 16, 2) := by decide +kernel
theorem kd_I_bitCount_45 : decode kc_I_bitCount 45 = .ok (.iushr, 1) := by decide +kernel
theorem kd_I_bitCount_46 : decode kc_I_bitCount 46 = .ok (.iadd, 1) := by decide +kernel
theorem kd_I_bitCount_47 : decode kc_I_bitCount 47 = .ok (.istore_n 0, 1) := by decide +kernel
theorem kd_I_bitCount_48 : decode kc_I_bitCount 48 = .ok (.iload_n 0, 1) := by decide +kernel
theorem kd_I_bitCount_49 : decode kc_I_bitCount 49 = .ok (.bipush 63, 2) := by decide +kernel
theorem kd_I_bitCount_51 : decode kc_I_bitCount 51 = .ok (.iand, 1) := by decide +kernel
theorem kd_I_bitCount_52 : decode kc_I_bitCount 52 = .ok (.ireturn, 1) := by decide +kernel
theorem kd_B_isBelow_0 : decode kc_B_isBelow 0 = .ok (.iconst 0, 1) := by decide +kernel
theorem kd_B_isBelow_1 : decode kc_B_isBelow 1 = .ok (.iload_n 0, 1) := by decide +kernel
theorem kd_B_isBelow_2 : decode kc_B_isBelow 2 = .ok (.if_icmp .gt 12, 3) := by decide +kernel
theorem kd_B_isBelow_5 : decode kc_B_isBelow 5 = .ok (.iload_n 0, 1) := by decide +kernel
theorem kd_B_isBelow_6 : decode kc_B_isBelow 6 = .ok (.iload_n 1, 1) := by decide +kernel
theorem kd_B_isBelow_7 : decode kc_B_isBelow 7 = .ok (.if_icmp .ge 7, 3) := by decide +kernel
theorem kd_B_isBelow_10 : decode kc_B_isBelow 10 = .ok (.iconst 1, 1) := by decide +kernel
theorem kd_B_isBelow_11 : decode kc_B_isBelow 11 = .ok (.goto 4, 3) := by decide +kernel
theorem kd_B_isBelow_14 : decode kc_B_isBelow 14 = .ok (.iconst 0, 1) := by decide +kernel
theorem kd_B_isBelow_15 : decode kc_B_isBelow 15 = .ok (.ireturn, 1) := by decide +kernel
theorem kd_B_isWithin_0 : decode kc_B_isWithin 0 = .ok (.iload_n 1, 1) := by decide +kernel
theorem kd_B_isWithin_1 : decode kc_B_isWithin 1 = .ok (.iload_n 0, 1) := by decide +kernel
theorem kd_B_isWithin_2 : decode kc_B_isWithin 2 = .ok (.if_icmp .gt 12, 3) := by decide +kernel
theorem kd_B_isWithin_5 : decode kc_B_isWithin 5 = .ok (.iload_n 0, 1) := by decide +kernel
theorem kd_B_isWithin_6 : decode kc_B_isWithin 6 = .ok (.iload_n 2, 1) := by decide +kernel
theorem kd_B_isWithin_7 : decode kc_B_isWithin 7 = .ok (.if_icmp .gt 7, 3) := by decide +kernel
theorem kd_B_isWithin_10 : decode kc_B_isWithin 10 = .ok (.iconst 1, 1) := by decide +kernel
theorem kd_B_isWithin_11 : decode kc_B_isWithin 11 = .ok (.goto 4, 3) := by decide +kernel
theorem kd_B_isWithin_14 : decode kc_B_isWithin 14 = .ok (.iconst 0, 1) := by decide +kernel
theorem kd_B_isWithin_15 : decode kc_B_isWithin 15 = .ok (.ireturn, 1) := by decide +kernel
theorem kd_B_isGood_0 : decode kc_B_isGood 0 = .ok (.iload_n 0, 1) := by decide +kernel
theorem kd_B_isGood_1 : decode kc_B_isGood 1 = .ok (.bipush 16, 2) := by decide +kernel
theorem kd_B_isGood_3 : decode kc_B_isGood 3 = .ok (.invokestatic 137, 3) := by decide +kernel
theorem kd_B_isGood_6 : decode kc_B_isGood 6 = .ok (.ireturn, 1) := by decide +kernel
theorem kd_B_isLand_0 : decode kc_B_isLand 0 = .ok (.iload_n 0, 1) := by decide +kernel
theorem kd_B_isLand_1 : decode kc_B_isLand 1 = .ok (.bipush 8, 2) := by decide +kernel
theorem kd_B_isLand_3 : decode kc_B_isLand 3 = .ok (.invokestatic 137, 3) := by decide +kernel
theorem kd_B_isLand_6 : decode kc_B_isLand 6 = .ok (.ireturn, 1) := by decide +kernel
theorem kd_B_isDay_0 : decode kc_B_isDay 0 = .ok (.iload_n 0, 1) := by decide +kernel
theorem kd_B_isDay_1 : decode kc_B_isDay 1 = .ok (.sipush 10000, 3) := by decide +kernel
theorem kd_B_isDay_4 : decode kc_B_isDay 4 = .ok (.invokestatic 137, 3) := by decide +kernel
theorem kd_B_isDay_7 : decode kc_B_isDay 7 = .ok (.ireturn, 1) := by decide +kernel
theorem kd_B_isFact_0 : decode kc_B_isFact 0 = .ok (.iload_n 0, 1) := by decide +kernel
theorem kd_B_isFact_1 : decode kc_B_isFact 1 = .ok (.bipush 8, 2) := by decide +kernel
theorem kd_B_isFact_3 : decode kc_B_isFact 3 = .ok (.invokestatic 137, 3) := by decide +kernel
theorem kd_B_isFact_6 : decode kc_B_isFact 6 = .ok (.ireturn, 1) := by decide +kernel
theorem kd_B_requireArgument_0 : decode kc_B_requireArgument 0 = .ok (.iload_n 0, 1) := by decide +kernel
theorem kd_B_requireArgument_1 : decode kc_B_requireArgument 1 = .ok (.ifCond .ne 11, 3) := by decide +kernel
theorem kd_B_requireArgument_4 : decode kc_B_requireArgument 4 = .ok (.new 300, 3) := by decide +kernel
theorem kd_B_requireArgument_7 : decode kc_B_requireArgument 7 = .ok (.dup, 1) := by decide +kernel
theorem kd_B_requireArgument_8 : decode kc_B_requireArgument 8 = .ok (.invokespecial 302, 3) := by decide +kernel
theorem kd_B_requireArgument_11 : decode kc_B_requireArgument 11 = .ok (.athrow, 1) := by decide +kernel
theorem kd_B_requireArgument_12 : decode kc_B_requireArgument 12 = .ok (.return_, 1) := by decide +kernel
theorem kd_B_requireState_0 : decode kc_B_requireState 0 = .ok (.iload_n 0, 1) := by decide +kernel
theorem kd_B_requireState_1 : decode kc_B_requireState 1 = .ok (.ifCond .ne 11, 3) := by decide +kernel
theorem kd_B_requireState_4 : decode kc_B_requireState 4 = .ok (.new 303, 3) := by decide +kernel
theorem kd_B_requireState_7 : decode kc_B_requireState 7 = .ok (.dup, 1) := by decide +kernel
theorem kd_B_requireState_8 : decode kc_B_requireState 8 = .ok (.invokespecial 305, 3) := by decide +kernel
theorem kd_B_requireState_11 : decode kc_B_requireState 11 = .ok (.athrow, 1) := by decide +kernel
theorem kd_B_requireState_12 : decode kc_B_requireState 12 = .ok (.return_, 1) := by decide +kernel
theorem kd_B_requireElement_0 : decode kc_B_requireElement 0 = .ok (.iload_n 0, 1) := by decide +kernel
theorem kd_B_requireElement_1 : decode kc_B_requireElement 1 = .ok (.ifCond .ne 11, 3) := by decide +kernel
theorem kd_B_requireElement_4 : decode kc_B_requireElement 4 = .ok (.new 306, 3) := by decide +kernel
theorem kd_B_requireElement_7 : decode kc_B_requireElement 7 = .ok (.dup, 1) := by decide +kernel
theorem kd_B_requireElement_8 : decode kc_B_requireElement 8 = .ok (.invokespecial 308, 3) := by decide +kernel
theorem kd_B_requireElement_11 : decode kc_B_requireElement 11 = .ok (.athrow, 1) := by decide +kernel
theorem kd_B_requireElement_12 : decode kc_B_requireElement 12 = .ok (.return_, 1) := by decide +kernel
theorem kd_B_requireRoom_0 : decode kc_B_requireRoom 0 = .ok (.iload_n 0, 1) := by decide +kernel
theorem kd_B_requireRoom_1 : decode kc_B_requireRoom 1 = .ok (.bipush 40, 2) := by decide +kernel
theorem kd_B_requireRoom_3 : decode kc_B_requireRoom 3 = .ok (.if_icmp .le 11, 3) := by decide +kernel
theorem kd_B_requireRoom_6 : decode kc_B_requireRoom 6 = .ok (.new 309, 3) := by decide +kernel
theorem kd_B_requireRoom_9 : decode kc_B_requireRoom 9 = .ok (.dup, 1) := by decide +kernel
theorem kd_B_requireRoom_10 : decode kc_B_requireRoom 10 = .ok (.invokespecial 311, 3) := by decide +kernel
theorem kd_B_requireRoom_13 : decode kc_B_requireRoom 13 = .ok (.athrow, 1) := by decide +kernel
theorem kd_B_requireRoom_14 : decode kc_B_requireRoom 14 = .ok (.return_, 1) := by decide +kernel
theorem kd_B_isHeading_0 : decode kc_B_isHeading 0 = .ok (.iload_n 1, 1) := by decide +kernel
theorem kd_B_isHeading_1 : decode kc_B_isHeading 1 = .ok (.aload_n 0, 1) := by decide +kernel
theorem kd_B_isHeading_2 : decode kc_B_isHeading 2 = .ok (.getfield 10, 3) := by decide +kernel
theorem kd_B_isHeading_5 : decode kc_B_isHeading 5 = .ok (.getfield 77, 3) := by decide +kernel
theorem kd_B_isHeading_8 : decode kc_B_isHeading 8 = .ok (.invokestatic 137, 3) := by decide +kernel
theorem kd_B_isHeading_11 : decode kc_B_isHeading 11 = .ok (.ireturn, 1) := by decide +kernel
theorem kd_B_isDeclaration_0 : decode kc_B_isDeclaration 0 = .ok (.iload_n 1, 1) := by decide +kernel
theorem kd_B_isDeclaration_1 : decode kc_B_isDeclaration 1 = .ok (.aload_n 0, 1) := by decide +kernel
theorem kd_B_isDeclaration_2 : decode kc_B_isDeclaration 2 = .ok (.getfield 42, 3) := by decide +kernel
theorem kd_B_isDeclaration_5 : decode kc_B_isDeclaration 5 = .ok (.getfield 167, 3) := by decide +kernel
theorem kd_B_isDeclaration_8 : decode kc_B_isDeclaration 8 = .ok (.invokestatic 137, 3) := by decide +kernel
theorem kd_B_isDeclaration_11 : decode kc_B_isDeclaration 11 = .ok (.ireturn, 1) := by decide +kernel
theorem kd_B_isLine_0 : decode kc_B_isLine 0 = .ok (.aload_n 0, 1) := by decide +kernel
theorem kd_B_isLine_1 : decode kc_B_isLine 1 = .ok (.iload_n 1, 1) := by decide +kernel
theorem kd_B_isLine_2 : decode kc_B_isLine 2 = .ok (.invokevirtual 171, 3) := by decide +kernel
theorem kd_B_isLine_5 : decode kc_B_isLine 5 = .ok (.ifCond .eq 23, 3) := by decide +kernel
theorem kd_B_isLine_8 : decode kc_B_isLine 8 = .ok (.iload_n 2, 1) := by decide +kernel
theorem kd_B_isLine_9 : decode kc_B_isLine 9 = .ok (.aload_n 0, 1) := by decide +kernel
theorem kd_B_isLine_10 : decode kc_B_isLine 10 = .ok (.getfield 42, 3) := by decide +kernel
theorem kd_B_isLine_13 : decode kc_B_isLine 13 = .ok (.getfield 181, 3) := by decide +kernel
theorem kd_B_isLine_16 : decode kc_B_isLine 16 = .ok (.iload_n 1, 1) := by decide +kernel
theorem kd_B_isLine_17 : decode kc_B_isLine 17 = .ok (.iaload, 1) := by decide +kernel
theorem kd_B_isLine_18 : decode kc_B_isLine 18 = .ok (.invokestatic 137, 3) := by decide +kernel
theorem kd_B_isLine_21 : decode kc_B_isLine 21 = .ok (.ifCond .eq 7, 3) := by decide +kernel
theorem kd_B_isLine_24 : decode kc_B_isLine 24 = .ok (.iconst 1, 1) := by decide +kernel
theorem kd_B_isLine_25 : decode kc_B_isLine 25 = .ok (.goto 4, 3) := by decide +kernel
theorem kd_B_isLine_28 : decode kc_B_isLine 28 = .ok (.iconst 0, 1) := by decide +kernel
theorem kd_B_isLine_29 : decode kc_B_isLine 29 = .ok (.ireturn, 1) := by decide +kernel
