abbrev kc_B_declare : ByteArray := prog_1_method_14_code
def ky_B_declare : MethodName := ({ cls := "BorderDesk", name := "declare", desc := "(II)I" } : Jvm.MethodName)
abbrev kc_B_line : ByteArray := prog_1_method_15_code
def ky_B_line : MethodName := ({ cls := "BorderDesk", name := "line", desc := "(IIIIIIZ)I" } : Jvm.MethodName)
abbrev kc_B_charge : ByteArray := prog_1_method_16_code
def ky_B_charge : MethodName := ({ cls := "BorderDesk", name := "charge", desc := "(III)V" } : Jvm.MethodName)
abbrev kc_B_lineOf : ByteArray := prog_1_method_17_code
def ky_B_lineOf : MethodName := ({ cls := "BorderDesk", name := "lineOf", desc := "(III)J" } : Jvm.MethodName)
abbrev kc_B_accept : ByteArray := prog_1_method_18_code
def ky_B_accept : MethodName := ({ cls := "BorderDesk", name := "accept", desc := "(I)J" } : Jvm.MethodName)
abbrev kc_B_amend : ByteArray := prog_1_method_19_code
def ky_B_amend : MethodName := ({ cls := "BorderDesk", name := "amend", desc := "(IIII)J" } : Jvm.MethodName)
abbrev kc_B_release : ByteArray := prog_1_method_20_code
def ky_B_release : MethodName := ({ cls := "BorderDesk", name := "release", desc := "(II)J" } : Jvm.MethodName)
abbrev kc_B_export : ByteArray := prog_1_method_21_code
def ky_B_export : MethodName := ({ cls := "BorderDesk", name := "export", desc := "(II)J" } : Jvm.MethodName)
abbrev kc_B_work : ByteArray := prog_1_method_22_code
def ky_B_work : MethodName := ({ cls := "BorderDesk", name := "work", desc := "(IIII)I" } : Jvm.MethodName)
abbrev kc_B_lot : ByteArray := prog_1_method_23_code
def ky_B_lot : MethodName := ({ cls := "BorderDesk", name := "lot", desc := "(II)J" } : Jvm.MethodName)
abbrev kc_B_account : ByteArray := prog_1_method_24_code
def ky_B_account : MethodName := ({ cls := "BorderDesk", name := "account", desc := "(II)J" } : Jvm.MethodName)
abbrev kc_B_books : ByteArray := prog_1_method_25_code
def ky_B_books : MethodName := ({ cls := "BorderDesk", name := "books", desc := "(I)J" } : Jvm.MethodName)
theorem kd_B_declare_0 : decode kc_B_declare 0 = .ok (.iload_n 1, 1) := by decide +kernel
theorem kd_B_declare_1 : decode kc_B_declare 1 = .ok (.invokestatic 118, 3) := by decide +kernel
theorem kd_B_declare_4 : decode kc_B_declare 4 = .ok (.invokestatic 73, 3) := by decide +kernel
theorem kd_B_declare_7 : decode kc_B_declare 7 = .ok (.iload_n 2, 1) := by decide +kernel
theorem kd_B_declare_8 : decode kc_B_declare 8 = .ok (.sipush 1440, 3) := by decide +kernel
theorem kd_B_declare_11 : decode kc_B_declare 11 = .ok (.invokestatic 137, 3) := by decide +kernel
theorem kd_B_declare_14 : decode kc_B_declare 14 = .ok (.invokestatic 73, 3) := by decide +kernel
theorem kd_B_declare_17 : decode kc_B_declare 17 = .ok (.aload_n 0, 1) := by decide +kernel
theorem kd_B_declare_18 : decode kc_B_declare 18 = .ok (.getfield 42, 3) := by decide +kernel
theorem kd_B_declare_21 : decode kc_B_declare 21 = .ok (.getfield 167, 3) := by decide +kernel
theorem kd_B_declare_24 : decode kc_B_declare 24 = .ok (.bipush 12, 2) := by decide +kernel
theorem kd_B_declare_26 : decode kc_B_declare 26 = .ok (.if_icmp .ge 7, 3) := by decide +kernel
theorem kd_B_declare_29 : decode kc_B_declare 29 = .ok (.iconst 1, 1) := by decide +kernel
theorem kd_B_declare_30 : decode kc_B_declare 30 = .ok (.goto 4, 3) := by decide +kernel
theorem kd_B_declare_33 : decode kc_B_declare 33 = .ok (.iconst 0, 1) := by decide +kernel
theorem kd_B_declare_34 : decode kc_B_declare 34 = .ok (.invokestatic 81, 3) := by decide +kernel
theorem kd_B_declare_37 : decode kc_B_declare 37 = .ok (.aload_n 0, 1) := by decide +kernel
theorem kd_B_declare_38 : decode kc_B_declare 38 = .ok (.getfield 42, 3) := by decide +kernel
theorem kd_B_declare_41 : decode kc_B_declare 41 = .ok (.iload_n 1, 1) := by decide +kernel
theorem kd_B_declare_42 : decode kc_B_declare 42 = .ok (.iload_n 2, 1) := by decide +kernel
theorem kd_B_declare_43 : decode kc_B_declare 43 = .ok (.invokevirtual 168, 3) := by decide +kernel
theorem kd_B_declare_46 : decode kc_B_declare 46 = .ok (.ireturn, 1) := by decide +kernel
theorem kd_B_line_0 : decode kc_B_line 0 = .ok (.aload_n 0, 1) := by decide +kernel
theorem kd_B_line_1 : decode kc_B_line 1 = .ok (.iload_n 1, 1) := by decide +kernel
theorem kd_B_line_2 : decode kc_B_line 2 = .ok (.invokevirtual 171, 3) := by decide +kernel
theorem kd_B_line_5 : decode kc_B_line 5 = .ok (.ifCond .eq 21, 3) := by decide +kernel
theorem kd_B_line_8 : decode kc_B_line 8 = .ok (.iload_n 2, 1) := by decide +kernel
theorem kd_B_line_9 : decode kc_B_line 9 = .ok (.invokestatic 105, 3) := by decide +kernel
theorem kd_B_line_12 : decode kc_B_line 12 = .ok (.ifCond .eq 14, 3) := by decide +kernel
theorem kd_B_line_15 : decode kc_B_line 15 = .ok (.iload_n 3, 1) := by decide +kernel
theorem kd_B_line_16 : decode kc_B_line 16 = .ok (.invokestatic 115, 3) := by decide +kernel
theorem kd_B_line_19 : decode kc_B_line 19 = .ok (.ifCond .eq 7, 3) := by decide +kernel
theorem kd_B_line_22 : decode kc_B_line 22 = .ok (.iconst 1, 1) := by decide +kernel
theorem kd_B_line_23 : decode kc_B_line 23 = .ok (.goto 4, 3) := by decide +kernel
theorem kd_B_line_26 : decode kc_B_line 26 = .ok (.iconst 0, 1) := by decide +kernel
theorem kd_B_line_27 : decode kc_B_line 27 = .ok (.invokestatic 73, 3) := by decide +kernel
theorem kd_B_line_30 : decode kc_B_line 30 = .ok (.iconst 0, 1) := by decide +kernel
theorem kd_B_line_31 : decode kc_B_line 31 = .ok (.iload 4, 2) := by decide +kernel
theorem kd_B_line_33 : decode kc_B_line 33 = .ok (.invokestatic 174, 3) := by decide +kernel
theorem kd_B_line_36 : decode kc_B_line 36 = .ok (.invokestatic 73, 3) := by decide +kernel
theorem kd_B_line_39 : decode kc_B_line 39 = .ok (.iconst 1, 1) := by decide +kernel
theorem kd_B_line_40 : decode kc_B_line 40 = .ok (.iload 5, 2) := by decide +kernel
theorem kd_B_line_42 : decode kc_B_line 42 = .ok (.invokestatic 174, 3) := by decide +kernel
theorem kd_B_line_45 : decode kc_B_line 45 = .ok (.invokestatic 73, 3) := by decide +kernel
theorem kd_B_line_48 : decode kc_B_line 48 = .ok (.iconst 2, 1) := by decide +kernel
theorem kd_B_line_49 : decode kc_B_line 49 = .ok (.iload 6, 2) := by decide +kernel
theorem kd_B_line_51 : decode kc_B_line 51 = .ok (.invokestatic 174, 3) := by decide +kernel
theorem kd_B_line_54 : decode kc_B_line 54 = .ok (.invokestatic 73, 3) := by decide +kernel
theorem kd_B_line_57 : decode kc_B_line 57 = .ok (.aload_n 0, 1) := by decide +kernel
theorem kd_B_line_58 : decode kc_B_line 58 = .ok (.getfield 42, 3) := by decide +kernel
theorem kd_B_line_61 : decode kc_B_line 61 = .ok (.getfield 177, 3) := by decide +kernel
theorem kd_B_line_64 : decode kc_B_line 64 = .ok (.iload_n 1, 1) := by decide +kernel
theorem kd_B_line_65 : decode kc_B_line 65 = .ok (.baload, 1) := by decide +kernel
theorem kd_B_line_66 : decode kc_B_line 66 = .ok (.ifCond .ne 7, 3) := by decide +kernel
theorem kd_B_line_69 : decode kc_B_line 69 = .ok (.iconst 1, 1) := by decide +kernel
theorem kd_B_line_70 : decode kc_B_line 70 = .ok (.goto 4, 3) := by decide +kernel
theorem kd_B_line_73 : decode kc_B_line 73 = .ok (.iconst 0, 1) := by decide +kernel
theorem kd_B_line_74 : decode kc_B_line 74 = .ok (.invokestatic 81, 3) := by decide +kernel
theorem kd_B_line_77 : decode kc_B_line 77 = .ok (.aload_n 0, 1) := by decide +kernel
theorem kd_B_line_78 : decode kc_B_line 78 = .ok (.getfield 42, 3) := by decide +kernel
theorem kd_B_line_81 : decode kc_B_line 81 = .ok (.getfield 181, 3) := by decide +kernel
theorem kd_B_line_84 : decode kc_B_line 84 = .ok (.iload_n 1, 1) := by decide +kernel
theorem kd_B_line_85 : decode kc_B_line 85 = .ok (.iaload, 1) := by decide +kernel
theorem kd_B_line_86 : decode kc_B_line 86 = .ok (.iconst 4, 1) := by decide +kernel
theorem kd_B_line_87 : decode kc_B_line 87 = .ok (.if_icmp .ge 7, 3) := by decide +kernel
theorem kd_B_line_90 : decode kc_B_line 90 = .ok (.iconst 1, 1) := by decide +kernel
theorem kd_B_line_91 : decode kc_B_line 91 = .ok (.goto 4, 3) := by decide +kernel
theorem kd_B_line_94 : decode kc_B_line 94 = .ok (.iconst 0, 1) := by decide +kernel
theorem kd_B_line_95 : decode kc_B_line 95 = .ok (.invokestatic 81, 3) := by decide +kernel
theorem kd_B_line_98 : decode kc_B_line 98 = .ok (.aload_n 0, 1) := by decide +kernel
theorem kd_B_line_99 : decode kc_B_line 99 = .ok (.getfield 42, 3) := by decide +kernel
theorem kd_B_line_102 : decode kc_B_line 102 = .ok (.iload_n 1, 1) := by decide +kernel
theorem kd_B_line_103 : decode kc_B_line 103 = .ok (.iload_n 2, 1) := by decide +kernel
theorem kd_B_line_104 : decode kc_B_line 104 = .ok (.iload_n 3, 1) := by decide +kernel
theorem kd_B_line_105 : decode kc_B_line 105 = .ok (.iload 4, 2) := by decide +kernel
theorem kd_B_line_107 : decode kc_B_line 107 = .ok (.iload 5, 2) := by decide +kernel
theorem kd_B_line_109 : decode kc_B_line 109 = .ok (.iload 6, 2) := by decide +kernel
theorem kd_B_line_111 : decode kc_B_line 111 = .ok (.iload 7, 2) := by decide +kernel
theorem kd_B_line_113 : decode kc_B_line 113 = .ok (.invokevirtual 184, 3) := by decide +kernel
theorem kd_B_line_116 : decode kc_B_line 116 = .ok (.ireturn, 1) := by decide +kernel
theorem kd_B_charge_0 : decode kc_B_charge 0 = .ok (.aload_n 0, 1) := by decide +kernel
theorem kd_B_charge_1 : decode kc_B_charge 1 = .ok (.iload_n 1, 1) := by decide +kernel
theorem kd_B_charge_2 : decode kc_B_charge 2 = .ok (.invokevirtual 171, 3) := by decide +kernel
theorem kd_B_charge_5 : decode kc_B_charge 5 = .ok (.invokestatic 73, 3) := by decide +kernel
theorem kd_B_charge_8 : decode kc_B_charge 8 = .ok (.iload_n 2, 1) := by decide +kernel
theorem kd_B_charge_9 : decode kc_B_charge 9 = .ok (.iconst 2, 1) := by decide +kernel
theorem kd_B_charge_10 : decode kc_B_charge 10 = .ok (.invokestatic 137, 3) := by decide +kernel
theorem kd_B_charge_13 : decode kc_B_charge 13 = .ok (.invokestatic 73, 3) := by decide +kernel
theorem kd_B_charge_16 : decode kc_B_charge 16 = .ok (.iload_n 3, 1) := by decide +kernel
theorem kd_B_charge_17 : decode kc_B_charge 17 = .ok (.iconst 0, 1) := by decide +kernel
theorem kd_B_charge_18 : decode kc_B_charge 18 = .ok (.ldc 188, 2) := by decide +kernel
theorem kd_B_charge_20 : decode kc_B_charge 20 = .ok (.invokestatic 94, 3) := by decide +kernel
theorem kd_B_charge_23 : decode kc_B_charge 23 = .ok (.invokestatic 73, 3) := by decide +kernel
theorem kd_B_charge_26 : decode kc_B_charge 26 = .ok (.aload_n 0, 1) := by decide +kernel
theorem kd_B_charge_27 : decode kc_B_charge 27 = .ok (.getfield 42, 3) := by decide +kernel
theorem kd_B_charge_30 : decode kc_B_charge 30 = .ok (.getfield 177, 3) := by decide +kernel
theorem kd_B_charge_33 : decode kc_B_charge 33 = .ok (.iload_n 1, 1) := by decide +kernel
theorem kd_B_charge_34 : decode kc_B_charge 34 = .ok (.baload, 1) := by decide +kernel
theorem kd_B_charge_35 : decode kc_B_charge 35 = .ok (.ifCond .ne 7, 3) := by decide +kernel
theorem kd_B_charge_38 : decode kc_B_charge 38 = .ok (.iconst 1, 1) := by decide +kernel
theorem kd_B_charge_39 : decode kc_B_charge 39 = .ok (.goto 4, 3) := by decide +kernel
theorem kd_B_charge_42 : decode kc_B_charge 42 = .ok (.iconst 0, 1) := by decide +kernel
theorem kd_B_charge_43 : decode kc_B_charge 43 = .ok (.invokestatic 81, 3) := by decide +kernel
theorem kd_B_charge_46 : decode kc_B_charge 46 = .ok (.aload_n 0, 1) := by decide +kernel
theorem kd_B_charge_47 : decode kc_B_charge 47 = .ok (.getfield 42, 3) := by decide +kernel
theorem kd_B_charge_50 : decode kc_B_charge 50 = .ok (.getfield 189, 3) := by decide +kernel
theorem kd_B_charge_53 : decode kc_B_charge 53 = .ok (.iload_n 1, 1) := by decide +kernel
theorem kd_B_charge_54 : decode kc_B_charge 54 = .ok (.aaload, 1) := by decide +kernel
theorem kd_B_charge_55 : decode kc_B_charge 55 = .ok (.iload_n 2, 1) := by decide +kernel
theorem kd_B_charge_56 : decode kc_B_charge 56 = .ok (.iload_n 3, 1) := by decide +kernel
theorem kd_B_charge_57 : decode kc_B_charge 57 = .ok (.iastore, 1) := by decide +kernel
theorem kd_B_charge_58 : decode kc_B_charge 58 = .ok (.return_, 1) := by decide +kernel
theorem kd_B_lineOf_0 : decode kc_B_lineOf 0 = .ok (.aload_n 0, 1) := by decide +kernel
theorem kd_B_lineOf_1 : decode kc_B_lineOf 1 = .ok (.iload_n 1, 1) := by decide +kernel
theorem kd_B_lineOf_2 : decode kc_B_lineOf 2 = .ok (.iload_n 2, 1) := by decide +kernel
theorem kd_B_lineOf_3 : decode kc_B_lineOf 3 = .ok (.invokevirtual 192, 3) := by decide +kernel
theorem kd_B_lineOf_6 : decode kc_B_lineOf 6 = .ok (.invokestatic 73, 3) := by decide +kernel
theorem kd_B_lineOf_9 : decode kc_B_lineOf 9 = .ok (.iload_n 3, 1) := by decide +kernel
theorem kd_B_lineOf_10 : decode kc_B_lineOf 10 = .ok (.iconst 0, 1) := by decide +kernel
theorem kd_B_lineOf_11 : decode kc_B_lineOf 11 = .ok (.iconst 2, 1) := by decide +kernel
theorem kd_B_lineOf_12 : decode kc_B_lineOf 12 = .ok (.invokestatic 94, 3) := by decide +kernel
theorem kd_B_lineOf_15 : decode kc_B_lineOf 15 = .ok (.invokestatic 73, 3) := by decide +kernel
theorem kd_B_lineOf_18 : decode kc_B_lineOf 18 = .ok (.iload_n 3, 1) := by decide +kernel
theorem kd_B_lineOf_19 : decode kc_B_lineOf 19 = .ok (.ifCond .ne 13, 3) := by decide +kernel
theorem kd_B_lineOf_22 : decode kc_B_lineOf 22 = .ok (.aload_n 0, 1) := by decide +kernel
theorem kd_B_lineOf_23 : decode kc_B_lineOf 23 = .ok (.getfield 51, 3) := by decide +kernel
theorem kd_B_lineOf_26 : decode kc_B_lineOf 26 = .ok (.iload_n 1, 1) := by decide +kernel
theorem kd_B_lineOf_27 : decode kc_B_lineOf 27 = .ok (.iload_n 2, 1) := by decide +kernel
theorem kd_B_lineOf_28 : decode kc_B_lineOf 28 = .ok (.invokevirtual 195, 3) := by decide +kernel
theorem kd_B_lineOf_31 : decode kc_B_lineOf 31 = .ok (.lreturn, 1) := by decide +kernel
theorem kd_B_lineOf_32 : decode kc_B_lineOf 32 = .ok (.aload_n 0, 1) := by decide +kernel
theorem kd_B_lineOf_33 : decode kc_B_lineOf 33 = .ok (.getfield 42, 3) := by decide +kernel
theorem kd_B_lineOf_36 : decode kc_B_lineOf 36 = .ok (.getfield 177, 3) := by decide +kernel
theorem kd_B_lineOf_39 : decode kc_B_lineOf 39 = .ok (.iload_n 1, 1) := by decide +kernel
theorem kd_B_lineOf_40 : decode kc_B_lineOf 40 = .ok (.baload, 1) := by decide +kernel
theorem kd_B_lineOf_41 : decode kc_B_lineOf 41 = .ok (.ifCond .eq 40, 3) := by decide +kernel
theorem kd_B_lineOf_44 : decode kc_B_lineOf 44 = .ok (.iload_n 1, 1) := by decide +kernel
theorem kd_B_lineOf_45 : decode kc_B_lineOf 45 = .ok (.iload_n 2, 1) := by decide +kernel
theorem kd_B_lineOf_46 : decode kc_B_lineOf 46 = .ok (.invokestatic 199, 3) := by decide +kernel
theorem kd_B_lineOf_49 : decode kc_B_lineOf 49 = .ok (.istore 4, 2) := by decide +kernel
theorem kd_B_lineOf_51 : decode kc_B_lineOf 51 = .ok (.iload_n 3, 1) := by decide +kernel
theorem kd_B_lineOf_52 : decode kc_B_lineOf 52 = .ok (.iconst 1, 1) := by decide +kernel
theorem kd_B_lineOf_53 : decode kc_B_lineOf 53 = .ok (.if_icmp .ne 17, 3) := by decide +kernel
theorem kd_B_lineOf_56 : decode kc_B_lineOf 56 = .ok (.aload_n 0, 1) := by decide +kernel
theorem kd_B_lineOf_57 : decode kc_B_lineOf 57 = .ok (.getfield 42, 3) := by decide +kernel
theorem kd_B_lineOf_60 : decode kc_B_lineOf 60 = .ok (.getfield 202, 3) := by decide +kernel
theorem kd_B_lineOf_63 : decode kc_B_lineOf 63 = .ok (.iload 4, 2) := by decide +kernel
theorem kd_B_lineOf_65 : decode kc_B_lineOf 65 = .ok (.iaload, 1) := by decide +kernel
theorem kd_B_lineOf_66 : decode kc_B_lineOf 66 = .ok (.i2l, 1) := by decide +kernel
theorem kd_B_lineOf_67 : decode kc_B_lineOf 67 = .ok (.goto 13, 3) := by decide +kernel
theorem kd_B_lineOf_70 : decode kc_B_lineOf 70 = .ok (.aload_n 0, 1) := by decide +kernel
theorem kd_B_lineOf_71 : decode kc_B_lineOf 71 = .ok (.getfield 42, 3) := by decide +kernel
theorem kd_B_lineOf_74 : decode kc_B_lineOf 74 = .ok (.getfield 205, 3) := by decide +kernel
theorem kd_B_lineOf_77 : decode kc_B_lineOf 77 = .ok (.iload 4, 2) := by decide +kernel
theorem kd_B_lineOf_79 : decode kc_B_lineOf 79 = .ok (.laload, 1) := by decide +kernel
theorem kd_B_lineOf_80 : decode kc_B_lineOf 80 = .ok (.lreturn, 1) := by decide +kernel
theorem kd_B_lineOf_81 : decode kc_B_lineOf 81 = .ok (.aload_n 0, 1) := by decide +kernel
theorem kd_B_lineOf_82 : decode kc_B_lineOf 82 = .ok (.getfield 51, 3) := by decide +kernel
theorem kd_B_lineOf_85 : decode kc_B_lineOf 85 = .ok (.iload_n 1, 1) := by decide +kernel
theorem kd_B_lineOf_86 : decode kc_B_lineOf 86 = .ok (.invokevirtual 209, 3) := by decide +kernel
theorem kd_B_lineOf_89 : decode kc_B_lineOf 89 = .ok (.invokestatic 212, 3) := by decide +kernel
theorem kd_B_lineOf_92 : decode kc_B_lineOf 92 = .ok (.aload_n 0, 1) := by decide +kernel
theorem kd_B_lineOf_93 : decode kc_B_lineOf 93 = .ok (.getfield 51, 3) := by decide +kernel
theorem kd_B_lineOf_96 : decode kc_B_lineOf 96 = .ok (.iload_n 1, 1) := by decide +kernel
theorem kd_B_lineOf_97 : decode kc_B_lineOf 97 = .ok (.invokevirtual 215, 3) := by decide +kernel
theorem kd_B_lineOf_100 : decode kc_B_lineOf 100 = .ok (.iload_n 3, 1) := by decide +kernel
theorem kd_B_lineOf_101 : decode kc_B_lineOf 101 = .ok (.iconst 1, 1) := by decide +kernel
theorem kd_B_lineOf_102 : decode kc_B_lineOf 102 = .ok (.if_icmp .ne 16, 3) := by decide +kernel
theorem kd_B_lineOf_105 : decode kc_B_lineOf 105 = .ok (.aload_n 0, 1) := by decide +kernel
theorem kd_B_lineOf_106 : decode kc_B_lineOf 106 = .ok (.getfield 51, 3) := by decide +kernel
theorem kd_B_lineOf_109 : decode kc_B_lineOf 109 = .ok (.getfield 219, 3) := by decide +kernel
theorem kd_B_lineOf_112 : decode kc_B_lineOf 112 = .ok (.iload_n 2, 1) := by decide +kernel
theorem kd_B_lineOf_113 : decode kc_B_lineOf 113 = .ok (.iaload, 1) := by decide +kernel
theorem kd_B_lineOf_114 : decode kc_B_lineOf 114 = .ok (.i2l, 1) := by decide +kernel
theorem kd_B_lineOf_115 : decode kc_B_lineOf 115 = .ok (.goto 12, 3) := by decide +kernel
theorem kd_B_lineOf_118 : decode kc_B_lineOf 118 = .ok (.aload_n 0, 1) := by decide +kernel
theorem kd_B_lineOf_119 : decode kc_B_lineOf 119 = .ok (.getfield 51, 3) := by decide +kernel
theorem kd_B_lineOf_122 : decode kc_B_lineOf 122 = .ok (.getfield 220, 3) := by decide +kernel
theorem kd_B_lineOf_125 : decode kc_B_lineOf 125 = .ok (.iload_n 2, 1) := by decide +kernel
theorem kd_B_lineOf_126 : decode kc_B_lineOf 126 = .ok (.laload, 1) := by decide +kernel
theorem kd_B_lineOf_127 : decode kc_B_lineOf 127 = .ok (.lreturn, 1) := by decide +kernel
theorem kd_B_accept_0 : decode kc_B_accept 0 = .ok (.aload_n 0, 1) := by decide +kernel
theorem kd_B_accept_1 : decode kc_B_accept 1 = .ok (.iload_n 1, 1) := by decide +kernel
theorem kd_B_accept_2 : decode kc_B_accept 2 = .ok (.invokevirtual 171, 3) := by decide +kernel
theorem kd_B_accept_5 : decode kc_B_accept 5 = .ok (.invokestatic 73, 3) := by decide +kernel
theorem kd_B_accept_8 : decode kc_B_accept 8 = .ok (.aload_n 0, 1) := by decide +kernel
theorem kd_B_accept_9 : decode kc_B_accept 9 = .ok (.getfield 42, 3) := by decide +kernel
theorem kd_B_accept_12 : decode kc_B_accept 12 = .ok (.getfield 177, 3) := by decide +kernel
theorem kd_B_accept_15 : decode kc_B_accept 15 = .ok (.iload_n 1, 1) := by decide +kernel
theorem kd_B_accept_16 : decode kc_B_accept 16 = .ok (.baload, 1) := by decide +kernel
theorem kd_B_accept_17 : decode kc_B_accept 17 = .ok (.ifCond .ne 7, 3) := by decide +kernel
theorem kd_B_accept_20 : decode kc_B_accept 20 = .ok (.iconst 1, 1) := by decide +kernel
theorem kd_B_accept_21 : decode kc_B_accept 21 = .ok (.goto 4, 3) := by decide +kernel
theorem kd_B_accept_24 : decode kc_B_accept 24 = .ok (.iconst 0, 1) := by decide +kernel
theorem kd_B_accept_25 : decode kc_B_accept 25 = .ok (.invokestatic 81, 3) := by decide +kernel
theorem kd_B_accept_28 : decode kc_B_accept 28 = .ok (.aload_n 0, 1) := by decide +kernel
theorem kd_B_accept_29 : decode kc_B_accept 29 = .ok (.getfield 42, 3) := by decide +kernel
theorem kd_B_accept_32 : decode kc_B_accept 32 = .ok (.iload_n 1, 1) := by decide +kernel
theorem kd_B_accept_33 : decode kc_B_accept 33 = .ok (.invokevirtual 221, 3) := by decide +kernel
theorem kd_B_accept_36 : decode kc_B_accept 36 = .ok (.ifCond .ne 7, 3) := by decide +kernel
theorem kd_B_accept_39 : decode kc_B_accept 39 = .ok (.iconst 1, 1) := by decide +kernel
theorem kd_B_accept_40 : decode kc_B_accept 40 = .ok (.goto 4, 3) := by decide +kernel
theorem kd_B_accept_43 : decode kc_B_accept 43 = .ok (.iconst 0, 1) := by decide +kernel
theorem kd_B_accept_44 : decode kc_B_accept 44 = .ok (.invokestatic 81, 3) := by decide +kernel
theorem kd_B_accept_47 : decode kc_B_accept 47 = .ok (.aload_n 0, 1) := by decide +kernel
theorem kd_B_accept_48 : decode kc_B_accept 48 = .ok (.getfield 51, 3) := by decide +kernel
theorem kd_B_accept_51 : decode kc_B_accept 51 = .ok (.iload_n 1, 1) := by decide +kernel
theorem kd_B_accept_52 : decode kc_B_accept 52 = .ok (.invokevirtual 209, 3) := by decide +kernel
theorem kd_B_accept_55 : decode kc_B_accept 55 = .ok (.invokestatic 212, 3) := by decide +kernel
theorem kd_B_accept_58 : decode kc_B_accept 58 = .ok (.aload_n 0, 1) := by decide +kernel
theorem kd_B_accept_59 : decode kc_B_accept 59 = .ok (.getfield 58, 3) := by decide +kernel
theorem kd_B_accept_62 : decode kc_B_accept 62 = .ok (.getfield 224, 3) := by decide +kernel
theorem kd_B_accept_65 : decode kc_B_accept 65 = .ok (.aload_n 0, 1) := by decide +kernel
theorem kd_B_accept_66 : decode kc_B_accept 66 = .ok (.getfield 42, 3) := by decide +kernel
theorem kd_B_accept_69 : decode kc_B_accept 69 = .ok (.getfield 181, 3) := by decide +kernel
theorem kd_B_accept_72 : decode kc_B_accept 72 = .ok (.iload_n 1, 1) := by decide +kernel
theorem kd_B_accept_73 : decode kc_B_accept 73 = .ok (.iaload, 1) := by decide +kernel
theorem kd_B_accept_74 : decode kc_B_accept 74 = .ok (.iadd, 1) := by decide +kernel
theorem kd_B_accept_75 : decode kc_B_accept 75 = .ok (.invokestatic 225, 3) := by decide +kernel
theorem kd_B_accept_78 : decode kc_B_accept 78 = .ok (.aload_n 0, 1) := by decide +kernel
theorem kd_B_accept_79 : decode kc_B_accept 79 = .ok (.getfield 51, 3) := by decide +kernel
theorem kd_B_accept_82 : decode kc_B_accept 82 = .ok (.iload_n 1, 1) := by decide +kernel
theorem kd_B_accept_83 : decode kc_B_accept 83 = .ok (.invokevirtual 215, 3) := by decide +kernel
theorem kd_B_accept_86 : decode kc_B_accept 86 = .ok (.aload_n 0, 1) := by decide +kernel
theorem kd_B_accept_87 : decode kc_B_accept 87 = .ok (.getfield 51, 3) := by decide +kernel
theorem kd_B_accept_90 : decode kc_B_accept 90 = .ok (.iload_n 1, 1) := by decide +kernel
