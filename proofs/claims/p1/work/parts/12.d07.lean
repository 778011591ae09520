abbrev kc_O_has : ByteArray := prog_6_method_9_code
def ky_O_has : MethodName := ({ cls := "BorderDesk$Origins", name := "has", desc := "(II)Z" } : Jvm.MethodName)
abbrev kc_O_wouldComeRound : ByteArray := prog_6_method_2_code
def ky_O_wouldComeRound : MethodName := ({ cls := "BorderDesk$Origins", name := "wouldComeRound", desc := "(II)Z" } : Jvm.MethodName)
abbrev kc_O_addPart : ByteArray := prog_6_method_3_code
def ky_O_addPart : MethodName := ({ cls := "BorderDesk$Origins", name := "addPart", desc := "(IIII)I" } : Jvm.MethodName)
abbrev kc_O_meetsRule : ByteArray := prog_6_method_5_code
def ky_O_meetsRule : MethodName := ({ cls := "BorderDesk$Origins", name := "meetsRule", desc := "(III)Z" } : Jvm.MethodName)
abbrev kc_O_isMadeIn : ByteArray := prog_6_method_4_code
def ky_O_isMadeIn : MethodName := ({ cls := "BorderDesk$Origins", name := "isMadeIn", desc := "(II)Z" } : Jvm.MethodName)
abbrev kc_D_add : ByteArray := prog_3_method_4_code
def ky_D_add : MethodName := ({ cls := "BorderDesk$Declarations", name := "add", desc := "(II)I" } : Jvm.MethodName)
abbrev kc_D_rowOf : ByteArray := prog_3_method_2_code
def ky_D_rowOf : MethodName := ({ cls := "BorderDesk$Declarations", name := "rowOf", desc := "(II)I" } : Jvm.MethodName)
abbrev kc_D_isInBounds : ByteArray := prog_3_method_3_code
def ky_D_isInBounds : MethodName := ({ cls := "BorderDesk$Declarations", name := "isInBounds", desc := "(II)Z" } : Jvm.MethodName)
abbrev kc_L_unitsLeft : ByteArray := prog_5_method_3_code
def ky_L_unitsLeft : MethodName := ({ cls := "BorderDesk$Lots", name := "unitsLeft", desc := "(IZ)I" } : Jvm.MethodName)
abbrev kc_L_heldUnitsThatCame : ByteArray := prog_5_method_4_code
def ky_L_heldUnitsThatCame : MethodName := ({ cls := "BorderDesk$Lots", name := "heldUnitsThatCame", desc := "(IZ)I" } : Jvm.MethodName)
theorem kd_O_has_0 : decode kc_O_has 0 = .ok (.iload_n 0, 1) := by decide +kernel
theorem kd_O_has_1 : decode kc_O_has 1 = .ok (.iload_n 1, 1) := by decide +kernel
theorem kd_O_has_2 : decode kc_O_has 2 = .ok (.ishr, 1) := by decide +kernel
theorem kd_O_has_3 : decode kc_O_has 3 = .ok (.iconst 1, 1) := by decide +kernel
theorem kd_O_has_4 : decode kc_O_has 4 = .ok (.iand, 1) := by decide +kernel
theorem kd_O_has_5 : decode kc_O_has 5 = .ok (.iconst 1, 1) := by decide +kernel
theorem kd_O_has_6 : decode kc_O_has 6 = .ok (.if_icmp .ne 7, 3) := by decide +kernel
theorem kd_O_has_9 : decode kc_O_has 9 = .ok (.iconst 1, 1) := by decide +kernel
theorem kd_O_has_10 : decode kc_O_has 10 = .ok (.goto 4, 3) := by decide +kernel
theorem kd_O_has_13 : decode kc_O_has 13 = .ok (.iconst 0, 1) := by decide +kernel
theorem kd_O_has_14 : decode kc_O_has 14 = .ok (.ireturn, 1) := by decide +kernel
theorem kd_O_wouldComeRound_0 : decode kc_O_wouldComeRound 0 = .ok (.iload_n 1, 1) := by decide +kernel
theorem kd_O_wouldComeRound_1 : decode kc_O_wouldComeRound 1 = .ok (.iload_n 2, 1) := by decide +kernel
theorem kd_O_wouldComeRound_2 : decode kc_O_wouldComeRound 2 = .ok (.if_icmp .eq 16, 3) := by decide +kernel
theorem kd_O_wouldComeRound_5 : decode kc_O_wouldComeRound 5 = .ok (.aload_n 0, 1) := by decide +kernel
theorem kd_O_wouldComeRound_6 : decode kc_O_wouldComeRound 6 = .ok (.getfield 29, 3) := by decide +kernel
theorem kd_O_wouldComeRound_9 : decode kc_O_wouldComeRound 9 = .ok (.iload_n 2, 1) := by decide +kernel
theorem kd_O_wouldComeRound_10 : decode kc_O_wouldComeRound 10 = .ok (.iaload, 1) := by decide +kernel
theorem kd_O_wouldComeRound_11 : decode kc_O_wouldComeRound 11 = .ok (.iload_n 1, 1) := by decide +kernel
theorem kd_O_wouldComeRound_12 : decode kc_O_wouldComeRound 12 = .ok (.invokestatic 36, 3) := by decide +kernel
theorem kd_O_wouldComeRound_15 : decode kc_O_wouldComeRound 15 = .ok (.ifCond .eq 7, 3) := by decide +kernel
theorem kd_O_wouldComeRound_18 : decode kc_O_wouldComeRound 18 = .ok (.iconst 1, 1) := by decide +kernel
theorem kd_O_wouldComeRound_19 : decode kc_O_wouldComeRound 19 = .ok (.goto 4, 3) := by decide +kernel
theorem kd_O_wouldComeRound_22 : decode kc_O_wouldComeRound 22 = .ok (.iconst 0, 1) := by decide +kernel
theorem kd_O_wouldComeRound_23 : decode kc_O_wouldComeRound 23 = .ok (.ireturn, 1) := by decide +kernel
theorem kd_O_addPart_0 : decode kc_O_addPart 0 = .ok (.aload_n 0, 1) := by decide +kernel
theorem kd_O_addPart_1 : decode kc_O_addPart 1 = .ok (.getfield 15, 3) := by decide +kernel
theorem kd_O_addPart_4 : decode kc_O_addPart 4 = .ok (.iload_n 1, 1) := by decide +kernel
theorem kd_O_addPart_5 : decode kc_O_addPart 5 = .ok (.iaload, 1) := by decide +kernel
theorem kd_O_addPart_6 : decode kc_O_addPart 6 = .ok (.istore 5, 2) := by decide +kernel
theorem kd_O_addPart_8 : decode kc_O_addPart 8 = .ok (.aload_n 0, 1) := by decide +kernel
theorem kd_O_addPart_9 : decode kc_O_addPart 9 = .ok (.getfield 20, 3) := by decide +kernel
theorem kd_O_addPart_12 : decode kc_O_addPart 12 = .ok (.iload_n 1, 1) := by decide +kernel
theorem kd_O_addPart_13 : decode kc_O_addPart 13 = .ok (.aaload, 1) := by decide +kernel
theorem kd_O_addPart_14 : decode kc_O_addPart 14 = .ok (.iload 5, 2) := by decide +kernel
theorem kd_O_addPart_16 : decode kc_O_addPart 16 = .ok (.iload_n 2, 1) := by decide +kernel
theorem kd_O_addPart_17 : decode kc_O_addPart 17 = .ok (.iastore, 1) := by decide +kernel
theorem kd_O_addPart_18 : decode kc_O_addPart 18 = .ok (.aload_n 0, 1) := by decide +kernel
theorem kd_O_addPart_19 : decode kc_O_addPart 19 = .ok (.getfield 23, 3) := by decide +kernel
theorem kd_O_addPart_22 : decode kc_O_addPart 22 = .ok (.iload_n 1, 1) := by decide +kernel
theorem kd_O_addPart_23 : decode kc_O_addPart 23 = .ok (.aaload, 1) := by decide +kernel
theorem kd_O_addPart_24 : decode kc_O_addPart 24 = .ok (.iload 5, 2) := by decide +kernel
theorem kd_O_addPart_26 : decode kc_O_addPart 26 = .ok (.iload_n 3, 1) := by decide +kernel
theorem kd_O_addPart_27 : decode kc_O_addPart 27 = .ok (.iastore, 1) := by decide +kernel
theorem kd_O_addPart_28 : decode kc_O_addPart 28 = .ok (.aload_n 0, 1) := by decide +kernel
theorem kd_O_addPart_29 : decode kc_O_addPart 29 = .ok (.getfield 26, 3) := by decide +kernel
theorem kd_O_addPart_32 : decode kc_O_addPart 32 = .ok (.iload_n 1, 1) := by decide +kernel
theorem kd_O_addPart_33 : decode kc_O_addPart 33 = .ok (.aaload, 1) := by decide +kernel
theorem kd_O_addPart_34 : decode kc_O_addPart 34 = .ok (.iload 5, 2) := by decide +kernel
theorem kd_O_addPart_36 : decode kc_O_addPart 36 = .ok (.iload 4, 2) := by decide +kernel
theorem kd_O_addPart_38 : decode kc_O_addPart 38 = .ok (.iastore, 1) := by decide +kernel
theorem kd_O_addPart_39 : decode kc_O_addPart 39 = .ok (.aload_n 0, 1) := by decide +kernel
theorem kd_O_addPart_40 : decode kc_O_addPart 40 = .ok (.getfield 15, 3) := by decide +kernel
theorem kd_O_addPart_43 : decode kc_O_addPart 43 = .ok (.iload_n 1, 1) := by decide +kernel
theorem kd_O_addPart_44 : decode kc_O_addPart 44 = .ok (.dup2, 1) := by decide +kernel
theorem kd_O_addPart_45 : decode kc_O_addPart 45 = .ok (.iaload, 1) := by decide +kernel
theorem kd_O_addPart_46 : decode kc_O_addPart 46 = .ok (.iconst 1, 1) := by decide +kernel
theorem kd_O_addPart_47 : decode kc_O_addPart 47 = .ok (.iadd, 1) := by decide +kernel
theorem kd_O_addPart_48 : decode kc_O_addPart 48 = .ok (.iastore, 1) := by decide +kernel
theorem kd_O_addPart_49 : decode kc_O_addPart 49 = .ok (.aload_n 0, 1) := by decide +kernel
theorem kd_O_addPart_50 : decode kc_O_addPart 50 = .ok (.getfield 29, 3) := by decide +kernel
theorem kd_O_addPart_53 : decode kc_O_addPart 53 = .ok (.iload_n 2, 1) := by decide +kernel
theorem kd_O_addPart_54 : decode kc_O_addPart 54 = .ok (.iaload, 1) := by decide +kernel
theorem kd_O_addPart_55 : decode kc_O_addPart 55 = .ok (.iconst 1, 1) := by decide +kernel
theorem kd_O_addPart_56 : decode kc_O_addPart 56 = .ok (.iload_n 2, 1) := by decide +kernel
theorem kd_O_addPart_57 : decode kc_O_addPart 57 = .ok (.ishl, 1) := by decide +kernel
theorem kd_O_addPart_58 : decode kc_O_addPart 58 = .ok (.ior, 1) := by decide +kernel
theorem kd_O_addPart_59 : decode kc_O_addPart 59 = .ok (.istore 6, 2) := by decide +kernel
theorem kd_O_addPart_61 : decode kc_O_addPart 61 = .ok (.iconst 0, 1) := by decide +kernel
theorem kd_O_addPart_62 : decode kc_O_addPart 62 = .ok (.istore 7, 2) := by decide +kernel
theorem kd_O_addPart_64 : decode kc_O_addPart 64 = .ok (.iload 7, 2) := by decide +kernel
theorem kd_O_addPart_66 : decode kc_O_addPart 66 = .ok (.bipush 16, 2) := by decide +kernel
theorem kd_O_addPart_68 : decode kc_O_addPart 68 = .ok (.if_icmp .ge 41, 3) := by decide +kernel
theorem kd_O_addPart_71 : decode kc_O_addPart 71 = .ok (.iload 7, 2) := by decide +kernel
theorem kd_O_addPart_73 : decode kc_O_addPart 73 = .ok (.iload_n 1, 1) := by decide +kernel
theorem kd_O_addPart_74 : decode kc_O_addPart 74 = .ok (.if_icmp .eq 17, 3) := by decide +kernel
theorem kd_O_addPart_77 : decode kc_O_addPart 77 = .ok (.aload_n 0, 1) := by decide +kernel
theorem kd_O_addPart_78 : decode kc_O_addPart 78 = .ok (.getfield 29, 3) := by decide +kernel
theorem kd_O_addPart_81 : decode kc_O_addPart 81 = .ok (.iload 7, 2) := by decide +kernel
theorem kd_O_addPart_83 : decode kc_O_addPart 83 = .ok (.iaload, 1) := by decide +kernel
theorem kd_O_addPart_84 : decode kc_O_addPart 84 = .ok (.iload_n 1, 1) := by decide +kernel
theorem kd_O_addPart_85 : decode kc_O_addPart 85 = .ok (.invokestatic 36, 3) := by decide +kernel
theorem kd_O_addPart_88 : decode kc_O_addPart 88 = .ok (.ifCond .eq 15, 3) := by decide +kernel
theorem kd_O_addPart_91 : decode kc_O_addPart 91 = .ok (.aload_n 0, 1) := by decide +kernel
theorem kd_O_addPart_92 : decode kc_O_addPart 92 = .ok (.getfield 29, 3) := by decide +kernel
theorem kd_O_addPart_95 : decode kc_O_addPart 95 = .ok (.iload 7, 2) := by decide +kernel
theorem kd_O_addPart_97 : decode kc_O_addPart 97 = .ok (.dup2, 1) := by decide +kernel
theorem kd_O_addPart_98 : decode kc_O_addPart 98 = .ok (.iaload, 1) := by decide +kernel
theorem kd_O_addPart_99 : decode kc_O_addPart 99 = .ok (.iload 6, 2) := by decide +kernel
theorem kd_O_addPart_101 : decode kc_O_addPart 101 = .ok (.ior, 1) := by decide +kernel
theorem kd_O_addPart_102 : decode kc_O_addPart 102 = .ok (.iastore, 1) := by decide +kernel
theorem kd_O_addPart_103 : decode kc_O_addPart 103 = .ok (.iinc 7 1, 3) := by decide +kernel
theorem kd_O_addPart_106 : decode kc_O_addPart 106 = .ok (.goto (-42), 3) := by decide +kernel
theorem kd_O_addPart_109 : decode kc_O_addPart 109 = .ok (.aload_n 0, 1) := by decide +kernel
theorem kd_O_addPart_110 : decode kc_O_addPart 110 = .ok (.getfield 15, 3) := by decide +kernel
theorem kd_O_addPart_113 : decode kc_O_addPart 113 = .ok (.iload_n 1, 1) := by decide +kernel
theorem kd_O_addPart_114 : decode kc_O_addPart 114 = .ok (.iaload, 1) := by decide +kernel
theorem kd_O_addPart_115 : decode kc_O_addPart 115 = .ok (.ireturn, 1) := by decide +kernel
theorem kd_O_meetsRule_0 : decode kc_O_meetsRule 0 = .ok (.aload_n 0, 1) := by decide +kernel
theorem kd_O_meetsRule_1 : decode kc_O_meetsRule 1 = .ok (.getfield 15, 3) := by decide +kernel
theorem kd_O_meetsRule_4 : decode kc_O_meetsRule 4 = .ok (.iload_n 1, 1) := by decide +kernel
theorem kd_O_meetsRule_5 : decode kc_O_meetsRule 5 = .ok (.iaload, 1) := by decide +kernel
theorem kd_O_meetsRule_6 : decode kc_O_meetsRule 6 = .ok (.ifCond .ne 7, 3) := by decide +kernel
theorem kd_O_meetsRule_9 : decode kc_O_meetsRule 9 = .ok (.iconst (-1), 1) := by decide +kernel
theorem kd_O_meetsRule_10 : decode kc_O_meetsRule 10 = .ok (.goto 11, 3) := by decide +kernel
theorem kd_O_meetsRule_13 : decode kc_O_meetsRule 13 = .ok (.aload_n 0, 1) := by decide +kernel
theorem kd_O_meetsRule_14 : decode kc_O_meetsRule 14 = .ok (.getfield 32, 3) := by decide +kernel
theorem kd_O_meetsRule_17 : decode kc_O_meetsRule 17 = .ok (.iload_n 1, 1) := by decide +kernel
theorem kd_O_meetsRule_18 : decode kc_O_meetsRule 18 = .ok (.invokevirtual 50, 3) := by decide +kernel
theorem kd_O_meetsRule_21 : decode kc_O_meetsRule 21 = .ok (.istore 4, 2) := by decide +kernel
theorem kd_O_meetsRule_23 : decode kc_O_meetsRule 23 = .ok (.iload 4, 2) := by decide +kernel
theorem kd_O_meetsRule_25 : decode kc_O_meetsRule 25 = .ok (.iconst (-1), 1) := by decide +kernel
theorem kd_O_meetsRule_26 : decode kc_O_meetsRule 26 = .ok (.if_icmp .ne 7, 3) := by decide +kernel
theorem kd_O_meetsRule_29 : decode kc_O_meetsRule 29 = .ok (.iconst (-1), 1) := by decide +kernel
theorem kd_O_meetsRule_30 : decode kc_O_meetsRule 30 = .ok (.goto 12, 3) := by decide +kernel
theorem kd_O_meetsRule_33 : decode kc_O_meetsRule 33 = .ok (.aload_n 0, 1) := by decide +kernel
theorem kd_O_meetsRule_34 : decode kc_O_meetsRule 34 = .ok (.getfield 32, 3) := by decide +kernel
theorem kd_O_meetsRule_37 : decode kc_O_meetsRule 37 = .ok (.iload 4, 2) := by decide +kernel
theorem kd_O_meetsRule_39 : decode kc_O_meetsRule 39 = .ok (.invokevirtual 55, 3) := by decide +kernel
theorem kd_O_meetsRule_42 : decode kc_O_meetsRule 42 = .ok (.istore 5, 2) := by decide +kernel
theorem kd_O_meetsRule_44 : decode kc_O_meetsRule 44 = .ok (.iload 5, 2) := by decide +kernel
theorem kd_O_meetsRule_46 : decode kc_O_meetsRule 46 = .ok (.iconst (-1), 1) := by decide +kernel
theorem kd_O_meetsRule_47 : decode kc_O_meetsRule 47 = .ok (.if_icmp .ne 5, 3) := by decide +kernel
theorem kd_O_meetsRule_50 : decode kc_O_meetsRule 50 = .ok (.iconst 0, 1) := by decide +kernel
theorem kd_O_meetsRule_51 : decode kc_O_meetsRule 51 = .ok (.ireturn, 1) := by decide +kernel
theorem kd_O_meetsRule_52 : decode kc_O_meetsRule 52 = .ok (.aload_n 0, 1) := by decide +kernel
theorem kd_O_meetsRule_53 : decode kc_O_meetsRule 53 = .ok (.getfield 32, 3) := by decide +kernel
theorem kd_O_meetsRule_56 : decode kc_O_meetsRule 56 = .ok (.getfield 58, 3) := by decide +kernel
theorem kd_O_meetsRule_59 : decode kc_O_meetsRule 59 = .ok (.iload 5, 2) := by decide +kernel
theorem kd_O_meetsRule_61 : decode kc_O_meetsRule 61 = .ok (.iaload, 1) := by decide +kernel
theorem kd_O_meetsRule_62 : decode kc_O_meetsRule 62 = .ok (.ifCond .ne 13, 3) := by decide +kernel
theorem kd_O_meetsRule_65 : decode kc_O_meetsRule 65 = .ok (.aload_n 0, 1) := by decide +kernel
theorem kd_O_meetsRule_66 : decode kc_O_meetsRule 66 = .ok (.iload_n 1, 1) := by decide +kernel
theorem kd_O_meetsRule_67 : decode kc_O_meetsRule 67 = .ok (.iload_n 2, 1) := by decide +kernel
theorem kd_O_meetsRule_68 : decode kc_O_meetsRule 68 = .ok (.iload_n 3, 1) := by decide +kernel
theorem kd_O_meetsRule_69 : decode kc_O_meetsRule 69 = .ok (.iload 4, 2) := by decide +kernel
theorem kd_O_meetsRule_71 : decode kc_O_meetsRule 71 = .ok (.invokevirtual 61, 3) := by decide +kernel
theorem kd_O_meetsRule_74 : decode kc_O_meetsRule 74 = .ok (.ireturn, 1) := by decide +kernel
theorem kd_O_meetsRule_75 : decode kc_O_meetsRule 75 = .ok (.aload_n 0, 1) := by decide +kernel
theorem kd_O_meetsRule_76 : decode kc_O_meetsRule 76 = .ok (.iload_n 1, 1) := by decide +kernel
theorem kd_O_meetsRule_77 : decode kc_O_meetsRule 77 = .ok (.iload_n 2, 1) := by decide +kernel
theorem kd_O_meetsRule_78 : decode kc_O_meetsRule 78 = .ok (.iload_n 3, 1) := by decide +kernel
theorem kd_O_meetsRule_79 : decode kc_O_meetsRule 79 = .ok (.aload_n 0, 1) := by decide +kernel
theorem kd_O_meetsRule_80 : decode kc_O_meetsRule 80 = .ok (.getfield 32, 3) := by decide +kernel
theorem kd_O_meetsRule_83 : decode kc_O_meetsRule 83 = .ok (.getfield 65, 3) := by decide +kernel
theorem kd_O_meetsRule_86 : decode kc_O_meetsRule 86 = .ok (.iload 5, 2) := by decide +kernel
theorem kd_O_meetsRule_88 : decode kc_O_meetsRule 88 = .ok (.iaload, 1) := by decide +kernel
theorem kd_O_meetsRule_89 : decode kc_O_meetsRule 89 = .ok (.invokevirtual 68, 3) := by decide +kernel
theorem kd_O_meetsRule_92 : decode kc_O_meetsRule 92 = .ok (.ireturn, 1) := by decide +kernel
theorem kd_O_isMadeIn_0 : decode kc_O_isMadeIn 0 = .ok (.aload_n 0, 1) := by decide +kernel
theorem kd_O_isMadeIn_1 : decode kc_O_isMadeIn 1 = .ok (.getfield 29, 3) := by decide +kernel
theorem kd_O_isMadeIn_4 : decode kc_O_isMadeIn 4 = .ok (.iload_n 1, 1) := by decide +kernel
theorem kd_O_isMadeIn_5 : decode kc_O_isMadeIn 5 = .ok (.iaload, 1) := by decide +kernel
theorem kd_O_isMadeIn_6 : decode kc_O_isMadeIn 6 = .ok (.iconst 1, 1) := by decide +kernel
theorem kd_O_isMadeIn_7 : decode kc_O_isMadeIn 7 = .ok (.iload_n 1, 1) := by decide +kernel
theorem kd_O_isMadeIn_8 : decode kc_O_isMadeIn 8 = .ok (.ishl, 1) := by decide +kernel
theorem kd_O_isMadeIn_9 : decode kc_O_isMadeIn 9 = .ok (.ior, 1) := by decide +kernel
theorem kd_O_isMadeIn_10 : decode kc_O_isMadeIn 10 = .ok (.istore_n 3, 1) := by decide +kernel
theorem kd_O_isMadeIn_11 : decode kc_O_isMadeIn 11 = .ok (.iconst 0, 1) := by decide +kernel
theorem kd_O_isMadeIn_12 : decode kc_O_isMadeIn 12 = .ok (.istore 4, 2) := by decide +kernel
theorem kd_O_isMadeIn_14 : decode kc_O_isMadeIn 14 = .ok (.iconst 0, 1) := by decide +kernel
theorem kd_O_isMadeIn_15 : decode kc_O_isMadeIn 15 = .ok (.istore 5, 2) := by decide +kernel
theorem kd_O_isMadeIn_17 : decode kc_O_isMadeIn 17 = .ok (.iload 5, 2) := by decide +kernel
theorem kd_O_isMadeIn_19 : decode kc_O_isMadeIn 19 = .ok (.aload_n 0, 1) := by decide +kernel
theorem kd_O_isMadeIn_20 : decode kc_O_isMadeIn 20 = .ok (.getfield 29, 3) := by decide +kernel
theorem kd_O_isMadeIn_23 : decode kc_O_isMadeIn 23 = .ok (.iload_n 1, 1) := by decide +kernel
theorem kd_O_isMadeIn_24 : decode kc_O_isMadeIn 24 = .ok (.iaload, 1) := by decide +kernel
theorem kd_O_isMadeIn_25 : decode kc_O_isMadeIn 25 = .ok (.invokestatic 40, 3) := by decide +kernel
theorem kd_O_isMadeIn_28 : decode kc_O_isMadeIn 28 = .ok (.if_icmp .gt 70, 3) := by decide +kernel
theorem kd_O_isMadeIn_31 : decode kc_O_isMadeIn 31 = .ok (.iconst 0, 1) := by decide +kernel
theorem kd_O_isMadeIn_32 : decode kc_O_isMadeIn 32 = .ok (.istore 6, 2) := by decide +kernel
theorem kd_O_isMadeIn_34 : decode kc_O_isMadeIn 34 = .ok (.iload 6, 2) := by decide +kernel
theorem kd_O_isMadeIn_36 : decode kc_O_isMadeIn 36 = .ok (.bipush 16, 2) := by decide +kernel
theorem kd_O_isMadeIn_38 : decode kc_O_isMadeIn 38 = .ok (.if_icmp .ge 54, 3) := by decide +kernel
theorem kd_O_isMadeIn_41 : decode kc_O_isMadeIn 41 = .ok (.iload_n 3, 1) := by decide +kernel
theorem kd_O_isMadeIn_42 : decode kc_O_isMadeIn 42 = .ok (.iload 6, 2) := by decide +kernel
theorem kd_O_isMadeIn_44 : decode kc_O_isMadeIn 44 = .ok (.invokestatic 36, 3) := by decide +kernel
theorem kd_O_isMadeIn_47 : decode kc_O_isMadeIn 47 = .ok (.ifCond .eq 39, 3) := by decide +kernel
theorem kd_O_isMadeIn_50 : decode kc_O_isMadeIn 50 = .ok (.aload_n 0, 1) := by decide +kernel
theorem kd_O_isMadeIn_51 : decode kc_O_isMadeIn 51 = .ok (.getfield 29, 3) := by decide +kernel
theorem kd_O_isMadeIn_54 : decode kc_O_isMadeIn 54 = .ok (.iload 6, 2) := by decide +kernel
theorem kd_O_isMadeIn_56 : decode kc_O_isMadeIn 56 = .ok (.iaload, 1) := by decide +kernel
theorem kd_O_isMadeIn_57 : decode kc_O_isMadeIn 57 = .ok (.invokestatic 40, 3) := by decide +kernel
theorem kd_O_isMadeIn_60 : decode kc_O_isMadeIn 60 = .ok (.iload 5, 2) := by decide +kernel
theorem kd_O_isMadeIn_62 : decode kc_O_isMadeIn 62 = .ok (.if_icmp .ne 24, 3) := by decide +kernel
theorem kd_O_isMadeIn_65 : decode kc_O_isMadeIn 65 = .ok (.aload_n 0, 1) := by decide +kernel
theorem kd_O_isMadeIn_66 : decode kc_O_isMadeIn 66 = .ok (.iload 6, 2) := by decide +kernel
theorem kd_O_isMadeIn_68 : decode kc_O_isMadeIn 68 = .ok (.iload_n 2, 1) := by decide +kernel
theorem kd_O_isMadeIn_69 : decode kc_O_isMadeIn 69 = .ok (.iload 4, 2) := by decide +kernel
theorem kd_O_isMadeIn_71 : decode kc_O_isMadeIn 71 = .ok (.invokevirtual 46, 3) := by decide +kernel
theorem kd_O_isMadeIn_74 : decode kc_O_isMadeIn 74 = .ok (.ifCond .eq 12, 3) := by decide +kernel
theorem kd_O_isMadeIn_77 : decode kc_O_isMadeIn 77 = .ok (.iload 4, 2) := by decide +kernel
theorem kd_O_isMadeIn_79 : decode kc_O_isMadeIn 79 = .ok (.iconst 1, 1) := by decide +kernel
theorem kd_O_isMadeIn_80 : decode kc_O_isMadeIn 80 = .ok (.iload 6, 2) := by decide +kernel
theorem kd_O_isMadeIn_82 : decode kc_O_isMadeIn 82 = .ok (.ishl, 1) := by decide +kernel
theorem kd_O_isMadeIn_83 : decode kc_O_isMadeIn 83 = .ok (.ior, 1) := by decide +kernel
theorem kd_O_isMadeIn_84 : decode kc_O_isMadeIn 84 = .ok (.istore 4, 2) := by decide +kernel
theorem kd_O_isMadeIn_86 : decode kc_O_isMadeIn 86 = .ok (.iinc 6 1, 3) := by decide +kernel
theorem kd_O_isMadeIn_89 : decode kc_O_isMadeIn 89 = .ok (.goto (-55), 3) := by decide +kernel
theorem kd_O_isMadeIn_92 : decode kc_O_isMadeIn 92 = .ok (.iinc 5 1, 3) := by decide +kernel
theorem kd_O_isMadeIn_95 : decode kc_O_isMadeIn 95 = .ok (.goto (-78), 3) := by decide +kernel
theorem kd_O_isMadeIn_98 : decode kc_O_isMadeIn 98 = .ok (.iload 4, 2) := by decide +kernel
theorem kd_O_isMadeIn_100 : decode kc_O_isMadeIn 100 = .ok (.iload_n 1, 1) := by decide +kernel
theorem kd_O_isMadeIn_101 : decode kc_O_isMadeIn 101 = .ok (.invokestatic 36, 3) := by decide +kernel
theorem kd_O_isMadeIn_104 : decode kc_O_isMadeIn 104 = .ok (.ireturn, 1) := by decide +kernel
theorem kd_D_add_0 : decode kc_D_add 0 = .ok (.aload_n 0, 1) := by decide +kernel
theorem kd_D_add_1 : decode kc_D_add 1 = .ok (.getfield 67, 3) := by decide +kernel
theorem kd_D_add_4 : decode kc_D_add 4 = .ok (.istore_n 3, 1) := by decide +kernel
theorem kd_D_add_5 : decode kc_D_add 5 = .ok (.aload_n 0, 1) := by decide +kernel
theorem kd_D_add_6 : decode kc_D_add 6 = .ok (.getfield 11, 3) := by decide +kernel
theorem kd_D_add_9 : decode kc_D_add 9 = .ok (.iload_n 3, 1) := by decide +kernel
theorem kd_D_add_10 : decode kc_D_add 10 = .ok (.iload_n 1, 1) := by decide +kernel
theorem kd_D_add_11 : decode kc_D_add 11 = .ok (.iastore, 1) := by decide +kernel
theorem kd_D_add_12 : decode kc_D_add 12 = .ok (.aload_n 0, 1) := by decide +kernel
theorem kd_D_add_13 : decode kc_D_add 13 = .ok (.getfield 15, 3) := by decide +kernel
theorem kd_D_add_16 : decode kc_D_add 16 = .ok (.iload_n 3, 1) := by decide +kernel
theorem kd_D_add_17 : decode kc_D_add 17 = .ok (.iload_n 2, 1) := by decide +kernel
theorem kd_D_add_18 : decode kc_D_add 18 = .ok (.iastore, 1) := by decide +kernel
theorem kd_D_add_19 : decode kc_D_add 19 = .ok (.aload_n 0, 1) := by decide +kernel
theorem kd_D_add_20 : decode kc_D_add 20 = .ok (.dup, 1) := by decide +kernel
theorem kd_D_add_21 : decode kc_D_add 21 = .ok (.getfield 67, 3) := by decide +kernel
theorem kd_D_add_24 : decode kc_D_add 24 = .ok (.iconst 1, 1) := by decide +kernel
theorem kd_D_add_25 : decode kc_D_add 25 = .ok (.iadd, 1) := by decide +kernel
theorem kd_D_add_26 : decode kc_D_add 26 = .ok (.putfield 67, 3) := by decide +kernel
theorem kd_D_add_29 : decode kc_D_add 29 = .ok (.iload_n 3, 1) := by decide +kernel
theorem kd_D_add_30 : decode kc_D_add 30 = .ok (.ireturn, 1) := by decide +kernel
theorem kd_D_rowOf_0 : decode kc_D_rowOf 0 = .ok (.iload_n 0, 1) := by decide +kernel
theorem kd_D_rowOf_1 : decode kc_D_rowOf 1 = .ok (.iconst 4, 1) := by decide +kernel
theorem kd_D_rowOf_2 : decode kc_D_rowOf 2 = .ok (.imul, 1) := by decide +kernel
theorem kd_D_rowOf_3 : decode kc_D_rowOf 3 = .ok (.iload_n 1, 1) := by decide +kernel
