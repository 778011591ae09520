abbrev kc_R_add : ByteArray := prog_8_method_2_code
def ky_R_add : MethodName := ({ cls := "BorderDesk$Rates", name := "add", desc := "(IIIIIII)I" } : Jvm.MethodName)
abbrev kc_R_lastOwn : ByteArray := prog_8_method_4_code
def ky_R_lastOwn : MethodName := ({ cls := "BorderDesk$Rates", name := "lastOwn", desc := "(III)I" } : Jvm.MethodName)
abbrev kc_R_find : ByteArray := prog_8_method_3_code
def ky_R_find : MethodName := ({ cls := "BorderDesk$Rates", name := "find", desc := "(III)I" } : Jvm.MethodName)
abbrev kc_R_exactDuty : ByteArray := prog_8_method_5_code
def ky_R_exactDuty : MethodName := ({ cls := "BorderDesk$Rates", name := "exactDuty", desc := "(IJJ)J" } : Jvm.MethodName)
abbrev kc_Q_add : ByteArray := prog_7_method_2_code
def ky_Q_add : MethodName := ({ cls := "BorderDesk$Quotas", name := "add", desc := "(IIIIII)I" } : Jvm.MethodName)
abbrev kc_Q_find : ByteArray := prog_7_method_3_code
def ky_Q_find : MethodName := ({ cls := "BorderDesk$Quotas", name := "find", desc := "(III)I" } : Jvm.MethodName)
abbrev kc_O_has : ByteArray := prog_6_method_9_code
def ky_O_has : MethodName := ({ cls := "BorderDesk$Origins", name := "has", desc := "(II)Z" } : Jvm.MethodName)
abbrev kc_O_wouldComeRound : ByteArray := prog_6_method_2_code
def ky_O_wouldComeRound : MethodName := ({ cls := "BorderDesk$Origins", name := "wouldComeRound", desc := "(II)Z" } : Jvm.MethodName)
abbrev kc_O_addPart : ByteArray := prog_6_method_3_code
def ky_O_addPart : MethodName := ({ cls := "BorderDesk$Origins", name := "addPart", desc := "(IIII)I" } : Jvm.MethodName)
abbrev kc_O_isForeign : ByteArray := prog_6_method_8_code
def ky_O_isForeign : MethodName := ({ cls := "BorderDesk$Origins", name := "isForeign", desc := "(IIII)Z" } : Jvm.MethodName)
abbrev kc_O_meetsChange : ByteArray := prog_6_method_6_code
def ky_O_meetsChange : MethodName := ({ cls := "BorderDesk$Origins", name := "meetsChange", desc := "(IIII)Z" } : Jvm.MethodName)
abbrev kc_O_meetsShare : ByteArray := prog_6_method_7_code
def ky_O_meetsShare : MethodName := ({ cls := "BorderDesk$Origins", name := "meetsShare", desc := "(IIII)Z" } : Jvm.MethodName)
abbrev kc_O_meetsRule : ByteArray := prog_6_method_5_code
def ky_O_meetsRule : MethodName := ({ cls := "BorderDesk$Origins", name := "meetsRule", desc := "(III)Z" } : Jvm.MethodName)
abbrev kc_O_isMadeIn : ByteArray := prog_6_method_4_code
def ky_O_isMadeIn : MethodName := ({ cls := "BorderDesk$Origins", name := "isMadeIn", desc := "(II)Z" } : Jvm.MethodName)
theorem kd_R_add_0 : decode kc_R_add 0 = .ok (.aload_n 0, 1) := by decide +kernel
theorem kd_R_add_1 : decode kc_R_add 1 = .ok (.getfield 37, 3) := by decide +kernel
theorem kd_R_add_4 : decode kc_R_add 4 = .ok (.istore 8, 2) := by decide +kernel
theorem kd_R_add_6 : decode kc_R_add 6 = .ok (.aload_n 0, 1) := by decide +kernel
theorem kd_R_add_7 : decode kc_R_add 7 = .ok (.getfield 11, 3) := by decide +kernel
theorem kd_R_add_10 : decode kc_R_add 10 = .ok (.iload 8, 2) := by decide +kernel
theorem kd_R_add_12 : decode kc_R_add 12 = .ok (.iload_n 1, 1) := by decide +kernel
theorem kd_R_add_13 : decode kc_R_add 13 = .ok (.iastore, 1) := by decide +kernel
theorem kd_R_add_14 : decode kc_R_add 14 = .ok (.aload_n 0, 1) := by decide +kernel
theorem kd_R_add_15 : decode kc_R_add 15 = .ok (.getfield 15, 3) := by decide +kernel
theorem kd_R_add_18 : decode kc_R_add 18 = .ok (.iload 8, 2) := by decide +kernel
theorem kd_R_add_20 : decode kc_R_add 20 = .ok (.iload_n 2, 1) := by decide +kernel
theorem kd_R_add_21 : decode kc_R_add 21 = .ok (.iastore, 1) := by decide +kernel
theorem kd_R_add_22 : decode kc_R_add 22 = .ok (.aload_n 0, 1) := by decide +kernel
theorem kd_R_add_23 : decode kc_R_add 23 = .ok (.getfield 18, 3) := by decide +kernel
theorem kd_R_add_26 : decode kc_R_add 26 = .ok (.iload 8, 2) := by decide +kernel
theorem kd_R_add_28 : decode kc_R_add 28 = .ok (.iload_n 3, 1) := by decide +kernel
theorem kd_R_add_29 : decode kc_R_add 29 = .ok (.iastore, 1) := by decide +kernel
theorem kd_R_add_30 : decode kc_R_add 30 = .ok (.aload_n 0, 1) := by decide +kernel
theorem kd_R_add_31 : decode kc_R_add 31 = .ok (.getfield 21, 3) := by decide +kernel
theorem kd_R_add_34 : decode kc_R_add 34 = .ok (.iload 8, 2) := by decide +kernel
theorem kd_R_add_36 : decode kc_R_add 36 = .ok (.iload 4, 2) := by decide +kernel
theorem kd_R_add_38 : decode kc_R_add 38 = .ok (.iastore, 1) := by decide +kernel
theorem kd_R_add_39 : decode kc_R_add 39 = .ok (.aload_n 0, 1) := by decide +kernel
theorem kd_R_add_40 : decode kc_R_add 40 = .ok (.getfield 24, 3) := by decide +kernel
theorem kd_R_add_43 : decode kc_R_add 43 = .ok (.iload 8, 2) := by decide +kernel
theorem kd_R_add_45 : decode kc_R_add 45 = .ok (.iload 5, 2) := by decide +kernel
theorem kd_R_add_47 : decode kc_R_add 47 = .ok (.iastore, 1) := by decide +kernel
theorem kd_R_add_48 : decode kc_R_add 48 = .ok (.aload_n 0, 1) := by decide +kernel
theorem kd_R_add_49 : decode kc_R_add 49 = .ok (.getfield 27, 3) := by decide +kernel
theorem kd_R_add_52 : decode kc_R_add 52 = .ok (.iload 8, 2) := by decide +kernel
theorem kd_R_add_54 : decode kc_R_add 54 = .ok (.iload 6, 2) := by decide +kernel
theorem kd_R_add_56 : decode kc_R_add 56 = .ok (.iastore, 1) := by decide +kernel
theorem kd_R_add_57 : decode kc_R_add 57 = .ok (.aload_n 0, 1) := by decide +kernel
theorem kd_R_add_58 : decode kc_R_add 58 = .ok (.getfield 30, 3) := by decide +kernel
theorem kd_R_add_61 : decode kc_R_add 61 = .ok (.iload 8, 2) := by decide +kernel
theorem kd_R_add_63 : decode kc_R_add 63 = .ok (.iload 7, 2) := by decide +kernel
theorem kd_R_add_65 : decode kc_R_add 65 = .ok (.iastore, 1) := by decide +kernel
theorem kd_R_add_66 : decode kc_R_add 66 = .ok (.aload_n 0, 1) := by decide +kernel
theorem kd_R_add_67 : decode kc_R_add 67 = .ok (.dup, 1) := by decide +kernel
theorem kd_R_add_68 : decode kc_R_add 68 = .ok (.getfield 37, 3) := by decide +kernel
theorem kd_R_add_71 : decode kc_R_add 71 = .ok (.iconst 1, 1) := by decide +kernel
theorem kd_R_add_72 : decode kc_R_add 72 = .ok (.iadd, 1) := by decide +kernel
theorem kd_R_add_73 : decode kc_R_add 73 = .ok (.putfield 37, 3) := by decide +kernel
theorem kd_R_add_76 : decode kc_R_add 76 = .ok (.iload 8, 2) := by decide +kernel
theorem kd_R_add_78 : decode kc_R_add 78 = .ok (.ireturn, 1) := by decide +kernel
theorem kd_R_lastOwn_0 : decode kc_R_lastOwn 0 = .ok (.aload_n 0, 1) := by decide +kernel
theorem kd_R_lastOwn_1 : decode kc_R_lastOwn 1 = .ok (.getfield 37, 3) := by decide +kernel
theorem kd_R_lastOwn_4 : decode kc_R_lastOwn 4 = .ok (.iconst 1, 1) := by decide +kernel
theorem kd_R_lastOwn_5 : decode kc_R_lastOwn 5 = .ok (.isub, 1) := by decide +kernel
theorem kd_R_lastOwn_6 : decode kc_R_lastOwn 6 = .ok (.istore 4, 2) := by decide +kernel
theorem kd_R_lastOwn_8 : decode kc_R_lastOwn 8 = .ok (.iload 4, 2) := by decide +kernel
theorem kd_R_lastOwn_10 : decode kc_R_lastOwn 10 = .ok (.ifCond .lt 55, 3) := by decide +kernel
theorem kd_R_lastOwn_13 : decode kc_R_lastOwn 13 = .ok (.aload_n 0, 1) := by decide +kernel
theorem kd_R_lastOwn_14 : decode kc_R_lastOwn 14 = .ok (.getfield 11, 3) := by decide +kernel
theorem kd_R_lastOwn_17 : decode kc_R_lastOwn 17 = .ok (.iload 4, 2) := by decide +kernel
theorem kd_R_lastOwn_19 : decode kc_R_lastOwn 19 = .ok (.iaload, 1) := by decide +kernel
theorem kd_R_lastOwn_20 : decode kc_R_lastOwn 20 = .ok (.iload_n 1, 1) := by decide +kernel
theorem kd_R_lastOwn_21 : decode kc_R_lastOwn 21 = .ok (.if_icmp .ne 38, 3) := by decide +kernel
theorem kd_R_lastOwn_24 : decode kc_R_lastOwn 24 = .ok (.aload_n 0, 1) := by decide +kernel
theorem kd_R_lastOwn_25 : decode kc_R_lastOwn 25 = .ok (.getfield 15, 3) := by decide +kernel
theorem kd_R_lastOwn_28 : decode kc_R_lastOwn 28 = .ok (.iload 4, 2) := by decide +kernel
theorem kd_R_lastOwn_30 : decode kc_R_lastOwn 30 = .ok (.iaload, 1) := by decide +kernel
theorem kd_R_lastOwn_31 : decode kc_R_lastOwn 31 = .ok (.iload_n 2, 1) := by decide +kernel
theorem kd_R_lastOwn_32 : decode kc_R_lastOwn 32 = .ok (.if_icmp .ne 27, 3) := by decide +kernel
theorem kd_R_lastOwn_35 : decode kc_R_lastOwn 35 = .ok (.iload_n 3, 1) := by decide +kernel
theorem kd_R_lastOwn_36 : decode kc_R_lastOwn 36 = .ok (.aload_n 0, 1) := by decide +kernel
theorem kd_R_lastOwn_37 : decode kc_R_lastOwn 37 = .ok (.getfield 27, 3) := by decide +kernel
theorem kd_R_lastOwn_40 : decode kc_R_lastOwn 40 = .ok (.iload 4, 2) := by decide +kernel
theorem kd_R_lastOwn_42 : decode kc_R_lastOwn 42 = .ok (.iaload, 1) := by decide +kernel
theorem kd_R_lastOwn_43 : decode kc_R_lastOwn 43 = .ok (.aload_n 0, 1) := by decide +kernel
theorem kd_R_lastOwn_44 : decode kc_R_lastOwn 44 = .ok (.getfield 30, 3) := by decide +kernel
theorem kd_R_lastOwn_47 : decode kc_R_lastOwn 47 = .ok (.iload 4, 2) := by decide +kernel
theorem kd_R_lastOwn_49 : decode kc_R_lastOwn 49 = .ok (.iaload, 1) := by decide +kernel
theorem kd_R_lastOwn_50 : decode kc_R_lastOwn 50 = .ok (.invokestatic 50, 3) := by decide +kernel
theorem kd_R_lastOwn_53 : decode kc_R_lastOwn 53 = .ok (.ifCond .eq 6, 3) := by decide +kernel
theorem kd_R_lastOwn_56 : decode kc_R_lastOwn 56 = .ok (.iload 4, 2) := by decide +kernel
theorem kd_R_lastOwn_58 : decode kc_R_lastOwn 58 = .ok (.ireturn, 1) := by decide +kernel
theorem kd_R_lastOwn_59 : decode kc_R_lastOwn 59 = .ok (.iinc 4 (-1), 3) := by decide +kernel
theorem kd_R_lastOwn_62 : decode kc_R_lastOwn 62 = .ok (.goto (-54), 3) := by decide +kernel
theorem kd_R_lastOwn_65 : decode kc_R_lastOwn 65 = .ok (.iconst (-1), 1) := by decide +kernel
theorem kd_R_lastOwn_66 : decode kc_R_lastOwn 66 = .ok (.ireturn, 1) := by decide +kernel
theorem kd_R_find_0 : decode kc_R_find 0 = .ok (.iload_n 1, 1) := by decide +kernel
theorem kd_R_find_1 : decode kc_R_find 1 = .ok (.istore 4, 2) := by decide +kernel
theorem kd_R_find_3 : decode kc_R_find 3 = .ok (.iconst 0, 1) := by decide +kernel
theorem kd_R_find_4 : decode kc_R_find 4 = .ok (.istore 5, 2) := by decide +kernel
theorem kd_R_find_6 : decode kc_R_find 6 = .ok (.iload 5, 2) := by decide +kernel
theorem kd_R_find_8 : decode kc_R_find 8 = .ok (.iconst 5, 1) := by decide +kernel
theorem kd_R_find_9 : decode kc_R_find 9 = .ok (.if_icmp .gt 62, 3) := by decide +kernel
theorem kd_R_find_12 : decode kc_R_find 12 = .ok (.iload 4, 2) := by decide +kernel
theorem kd_R_find_14 : decode kc_R_find 14 = .ok (.iconst (-1), 1) := by decide +kernel
theorem kd_R_find_15 : decode kc_R_find 15 = .ok (.if_icmp .eq 56, 3) := by decide +kernel
theorem kd_R_find_18 : decode kc_R_find 18 = .ok (.aload_n 0, 1) := by decide +kernel
theorem kd_R_find_19 : decode kc_R_find 19 = .ok (.iload 4, 2) := by decide +kernel
theorem kd_R_find_21 : decode kc_R_find 21 = .ok (.iload_n 2, 1) := by decide +kernel
theorem kd_R_find_22 : decode kc_R_find 22 = .ok (.iload_n 3, 1) := by decide +kernel
theorem kd_R_find_23 : decode kc_R_find 23 = .ok (.invokevirtual 43, 3) := by decide +kernel
theorem kd_R_find_26 : decode kc_R_find 26 = .ok (.istore 6, 2) := by decide +kernel
theorem kd_R_find_28 : decode kc_R_find 28 = .ok (.iload 6, 2) := by decide +kernel
theorem kd_R_find_30 : decode kc_R_find 30 = .ok (.iconst (-1), 1) := by decide +kernel
theorem kd_R_find_31 : decode kc_R_find 31 = .ok (.if_icmp .ne 13, 3) := by decide +kernel
theorem kd_R_find_34 : decode kc_R_find 34 = .ok (.aload_n 0, 1) := by decide +kernel
theorem kd_R_find_35 : decode kc_R_find 35 = .ok (.iload 4, 2) := by decide +kernel
theorem kd_R_find_37 : decode kc_R_find 37 = .ok (.iconst (-1), 1) := by decide +kernel
theorem kd_R_find_38 : decode kc_R_find 38 = .ok (.iload_n 3, 1) := by decide +kernel
theorem kd_R_find_39 : decode kc_R_find 39 = .ok (.invokevirtual 43, 3) := by decide +kernel
theorem kd_R_find_42 : decode kc_R_find 42 = .ok (.istore 6, 2) := by decide +kernel
theorem kd_R_find_44 : decode kc_R_find 44 = .ok (.iload 6, 2) := by decide +kernel
theorem kd_R_find_46 : decode kc_R_find 46 = .ok (.iconst (-1), 1) := by decide +kernel
theorem kd_R_find_47 : decode kc_R_find 47 = .ok (.if_icmp .eq 6, 3) := by decide +kernel
theorem kd_R_find_50 : decode kc_R_find 50 = .ok (.iload 6, 2) := by decide +kernel
theorem kd_R_find_52 : decode kc_R_find 52 = .ok (.ireturn, 1) := by decide +kernel
theorem kd_R_find_53 : decode kc_R_find 53 = .ok (.aload_n 0, 1) := by decide +kernel
theorem kd_R_find_54 : decode kc_R_find 54 = .ok (.getfield 33, 3) := by decide +kernel
theorem kd_R_find_57 : decode kc_R_find 57 = .ok (.getfield 47, 3) := by decide +kernel
theorem kd_R_find_60 : decode kc_R_find 60 = .ok (.iload 4, 2) := by decide +kernel
theorem kd_R_find_62 : decode kc_R_find 62 = .ok (.iaload, 1) := by decide +kernel
theorem kd_R_find_63 : decode kc_R_find 63 = .ok (.istore 4, 2) := by decide +kernel
theorem kd_R_find_65 : decode kc_R_find 65 = .ok (.iinc 5 1, 3) := by decide +kernel
theorem kd_R_find_68 : decode kc_R_find 68 = .ok (.goto (-62), 3) := by decide +kernel
theorem kd_R_find_71 : decode kc_R_find 71 = .ok (.iconst (-1), 1) := by decide +kernel
theorem kd_R_find_72 : decode kc_R_find 72 = .ok (.ireturn, 1) := by decide +kernel
theorem kd_R_exactDuty_0 : decode kc_R_exactDuty 0 = .ok (.aload_n 0, 1) := by decide +kernel
theorem kd_R_exactDuty_1 : decode kc_R_exactDuty 1 = .ok (.getfield 21, 3) := by decide +kernel
theorem kd_R_exactDuty_4 : decode kc_R_exactDuty 4 = .ok (.iload_n 1, 1) := by decide +kernel
theorem kd_R_exactDuty_5 : decode kc_R_exactDuty 5 = .ok (.iaload, 1) := by decide +kernel
theorem kd_R_exactDuty_6 : decode kc_R_exactDuty 6 = .ok (.i2l, 1) := by decide +kernel
theorem kd_R_exactDuty_7 : decode kc_R_exactDuty 7 = .ok (.lload_n 2, 1) := by decide +kernel
theorem kd_R_exactDuty_8 : decode kc_R_exactDuty 8 = .ok (.lmul, 1) := by decide +kernel
theorem kd_R_exactDuty_9 : decode kc_R_exactDuty 9 = .ok (.lstore 6, 2) := by decide +kernel
theorem kd_R_exactDuty_11 : decode kc_R_exactDuty 11 = .ok (.aload_n 0, 1) := by decide +kernel
theorem kd_R_exactDuty_12 : decode kc_R_exactDuty 12 = .ok (.getfield 24, 3) := by decide +kernel
theorem kd_R_exactDuty_15 : decode kc_R_exactDuty 15 = .ok (.iload_n 1, 1) := by decide +kernel
theorem kd_R_exactDuty_16 : decode kc_R_exactDuty 16 = .ok (.iaload, 1) := by decide +kernel
theorem kd_R_exactDuty_17 : decode kc_R_exactDuty 17 = .ok (.i2l, 1) := by decide +kernel
theorem kd_R_exactDuty_18 : decode kc_R_exactDuty 18 = .ok (.lload 4, 2) := by decide +kernel
theorem kd_R_exactDuty_20 : decode kc_R_exactDuty 20 = .ok (.lmul, 1) := by decide +kernel
theorem kd_R_exactDuty_21 : decode kc_R_exactDuty 21 = .ok (.ldc2_w 54, 3) := by decide +kernel
theorem kd_R_exactDuty_24 : decode kc_R_exactDuty 24 = .ok (.lmul, 1) := by decide +kernel
theorem kd_R_exactDuty_25 : decode kc_R_exactDuty 25 = .ok (.lstore 8, 2) := by decide +kernel
theorem kd_R_exactDuty_27 : decode kc_R_exactDuty 27 = .ok (.aload_n 0, 1) := by decide +kernel
theorem kd_R_exactDuty_28 : decode kc_R_exactDuty 28 = .ok (.getfield 18, 3) := by decide +kernel
theorem kd_R_exactDuty_31 : decode kc_R_exactDuty 31 = .ok (.iload_n 1, 1) := by decide +kernel
theorem kd_R_exactDuty_32 : decode kc_R_exactDuty 32 = .ok (.iaload, 1) := by decide +kernel
theorem kd_R_exactDuty_33 : decode kc_R_exactDuty 33 = .ok (.tableswitch 41 0 2 #[27, 30, 33], 27) := by decide +kernel
theorem kd_R_exactDuty_60 : decode kc_R_exactDuty 60 = .ok (.lload 6, 2) := by decide +kernel
theorem kd_R_exactDuty_62 : decode kc_R_exactDuty 62 = .ok (.lreturn, 1) := by decide +kernel
theorem kd_R_exactDuty_63 : decode kc_R_exactDuty 63 = .ok (.lload 8, 2) := by decide +kernel
theorem kd_R_exactDuty_65 : decode kc_R_exactDuty 65 = .ok (.lreturn, 1) := by decide +kernel
theorem kd_R_exactDuty_66 : decode kc_R_exactDuty 66 = .ok (.lload 6, 2) := by decide +kernel
theorem kd_R_exactDuty_68 : decode kc_R_exactDuty 68 = .ok (.lload 8, 2) := by decide +kernel
theorem kd_R_exactDuty_70 : decode kc_R_exactDuty 70 = .ok (.invokestatic 56, 3) := by decide +kernel
theorem kd_R_exactDuty_73 : decode kc_R_exactDuty 73 = .ok (.lreturn, 1) := by decide +kernel
theorem kd_R_exactDuty_74 : decode kc_R_exactDuty 74 = .ok (.lload 6, 2) := by decide +kernel
theorem kd_R_exactDuty_76 : decode kc_R_exactDuty 76 = .ok (.lload 8, 2) := by decide +kernel
theorem kd_R_exactDuty_78 : decode kc_R_exactDuty 78 = .ok (.ladd, 1) := by decide +kernel
theorem kd_R_exactDuty_79 : decode kc_R_exactDuty 79 = .ok (.lreturn, 1) := by decide +kernel
theorem kd_Q_add_0 : decode kc_Q_add 0 = .ok (.aload_n 0, 1) := by decide +kernel
theorem kd_Q_add_1 : decode kc_Q_add 1 = .ok (.getfield 34, 3) := by decide +kernel
theorem kd_Q_add_4 : decode kc_Q_add 4 = .ok (.istore 7, 2) := by decide +kernel
theorem kd_Q_add_6 : decode kc_Q_add 6 = .ok (.aload_n 0, 1) := by decide +kernel
theorem kd_Q_add_7 : decode kc_Q_add 7 = .ok (.getfield 18, 3) := by decide +kernel
theorem kd_Q_add_10 : decode kc_Q_add 10 = .ok (.iload 7, 2) := by decide +kernel
theorem kd_Q_add_12 : decode kc_Q_add 12 = .ok (.iload_n 1, 1) := by decide +kernel
theorem kd_Q_add_13 : decode kc_Q_add 13 = .ok (.iastore, 1) := by decide +kernel
theorem kd_Q_add_14 : decode kc_Q_add 14 = .ok (.aload_n 0, 1) := by decide +kernel
theorem kd_Q_add_15 : decode kc_Q_add 15 = .ok (.getfield 21, 3) := by decide +kernel
theorem kd_Q_add_18 : decode kc_Q_add 18 = .ok (.iload 7, 2) := by decide +kernel
theorem kd_Q_add_20 : decode kc_Q_add 20 = .ok (.iload_n 2, 1) := by decide +kernel
theorem kd_Q_add_21 : decode kc_Q_add 21 = .ok (.iastore, 1) := by decide +kernel
theorem kd_Q_add_22 : decode kc_Q_add 22 = .ok (.aload_n 0, 1) := by decide +kernel
theorem kd_Q_add_23 : decode kc_Q_add 23 = .ok (.getfield 11, 3) := by decide +kernel
theorem kd_Q_add_26 : decode kc_Q_add 26 = .ok (.iload 7, 2) := by decide +kernel
theorem kd_Q_add_28 : decode kc_Q_add 28 = .ok (.iload_n 3, 1) := by decide +kernel
theorem kd_Q_add_29 : decode kc_Q_add 29 = .ok (.iastore, 1) := by decide +kernel
theorem kd_Q_add_30 : decode kc_Q_add 30 = .ok (.aload_n 0, 1) := by decide +kernel
theorem kd_Q_add_31 : decode kc_Q_add 31 = .ok (.getfield 15, 3) := by decide +kernel
theorem kd_Q_add_34 : decode kc_Q_add 34 = .ok (.iload 7, 2) := by decide +kernel
theorem kd_Q_add_36 : decode kc_Q_add 36 = .ok (.iload 4, 2) := by decide +kernel
theorem kd_Q_add_38 : decode kc_Q_add 38 = .ok (.iastore, 1) := by decide +kernel
theorem kd_Q_add_39 : decode kc_Q_add 39 = .ok (.aload_n 0, 1) := by decide +kernel
theorem kd_Q_add_40 : decode kc_Q_add 40 = .ok (.getfield 24, 3) := by decide +kernel
theorem kd_Q_add_43 : decode kc_Q_add 43 = .ok (.iload 7, 2) := by decide +kernel
theorem kd_Q_add_45 : decode kc_Q_add 45 = .ok (.iload 5, 2) := by decide +kernel
theorem kd_Q_add_47 : decode kc_Q_add 47 = .ok (.iastore, 1) := by decide +kernel
theorem kd_Q_add_48 : decode kc_Q_add 48 = .ok (.aload_n 0, 1) := by decide +kernel
theorem kd_Q_add_49 : decode kc_Q_add 49 = .ok (.getfield 27, 3) := by decide +kernel
theorem kd_Q_add_52 : decode kc_Q_add 52 = .ok (.iload 7, 2) := by decide +kernel
theorem kd_Q_add_54 : decode kc_Q_add 54 = .ok (.iload 6, 2) := by decide +kernel
theorem kd_Q_add_56 : decode kc_Q_add 56 = .ok (.iastore, 1) := by decide +kernel
theorem kd_Q_add_57 : decode kc_Q_add 57 = .ok (.aload_n 0, 1) := by decide +kernel
theorem kd_Q_add_58 : decode kc_Q_add 58 = .ok (.dup, 1) := by decide +kernel
theorem kd_Q_add_59 : decode kc_Q_add 59 = .ok (.getfield 34, 3) := by decide +kernel
theorem kd_Q_add_62 : decode kc_Q_add 62 = .ok (.iconst 1, 1) := by decide +kernel
theorem kd_Q_add_63 : decode kc_Q_add 63 = .ok (.iadd, 1) := by decide +kernel
theorem kd_Q_add_64 : decode kc_Q_add 64 = .ok (.putfield 34, 3) := by decide +kernel
theorem kd_Q_add_67 : decode kc_Q_add 67 = .ok (.iload 7, 2) := by decide +kernel
theorem kd_Q_add_69 : decode kc_Q_add 69 = .ok (.ireturn, 1) := by decide +kernel
theorem kd_Q_find_0 : decode kc_Q_find 0 = .ok (.iconst 0, 1) := by decide +kernel
theorem kd_Q_find_1 : decode kc_Q_find 1 = .ok (.istore 4, 2) := by decide +kernel
theorem kd_Q_find_3 : decode kc_Q_find 3 = .ok (.iload 4, 2) := by decide +kernel
theorem kd_Q_find_5 : decode kc_Q_find 5 = .ok (.aload_n 0, 1) := by decide +kernel
theorem kd_Q_find_6 : decode kc_Q_find 6 = .ok (.getfield 34, 3) := by decide +kernel
theorem kd_Q_find_9 : decode kc_Q_find 9 = .ok (.if_icmp .ge 62, 3) := by decide +kernel
theorem kd_Q_find_12 : decode kc_Q_find 12 = .ok (.aload_n 0, 1) := by decide +kernel
theorem kd_Q_find_13 : decode kc_Q_find 13 = .ok (.getfield 21, 3) := by decide +kernel
theorem kd_Q_find_16 : decode kc_Q_find 16 = .ok (.iload 4, 2) := by decide +kernel
theorem kd_Q_find_18 : decode kc_Q_find 18 = .ok (.iaload, 1) := by decide +kernel
theorem kd_Q_find_19 : decode kc_Q_find 19 = .ok (.iload_n 2, 1) := by decide +kernel
theorem kd_Q_find_20 : decode kc_Q_find 20 = .ok (.if_icmp .ne 45, 3) := by decide +kernel
theorem kd_Q_find_23 : decode kc_Q_find 23 = .ok (.iload_n 3, 1) := by decide +kernel
theorem kd_Q_find_24 : decode kc_Q_find 24 = .ok (.aload_n 0, 1) := by decide +kernel
theorem kd_Q_find_25 : decode kc_Q_find 25 = .ok (.getfield 24, 3) := by decide +kernel
theorem kd_Q_find_28 : decode kc_Q_find 28 = .ok (.iload 4, 2) := by decide +kernel
theorem kd_Q_find_30 : decode kc_Q_find 30 = .ok (.iaload, 1) := by decide +kernel
theorem kd_Q_find_31 : decode kc_Q_find 31 = .ok (.aload_n 0, 1) := by decide +kernel
theorem kd_Q_find_32 : decode kc_Q_find 32 = .ok (.getfield 27, 3) := by decide +kernel
theorem kd_Q_find_35 : decode kc_Q_find 35 = .ok (.iload 4, 2) := by decide +kernel
theorem kd_Q_find_37 : decode kc_Q_find 37 = .ok (.iaload, 1) := by decide +kernel
theorem kd_Q_find_38 : decode kc_Q_find 38 = .ok (.invokestatic 38, 3) := by decide +kernel
theorem kd_Q_find_41 : decode kc_Q_find 41 = .ok (.ifCond .eq 24, 3) := by decide +kernel
theorem kd_Q_find_44 : decode kc_Q_find 44 = .ok (.aload_n 0, 1) := by decide +kernel
