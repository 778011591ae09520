abbrev kc_T_init : ByteArray := prog_9_method_1_code
def ky_T_init : MethodName := ({ cls := "BorderDesk$Tariff", name := "<init>", desc := "()V" } : Jvm.MethodName)
abbrev kc_R_init : ByteArray := prog_8_method_1_code
def ky_R_init : MethodName := ({ cls := "BorderDesk$Rates", name := "<init>", desc := "(LBorderDesk$Tariff;)V" } : Jvm.MethodName)
abbrev kc_Q_init : ByteArray := prog_7_method_1_code
def ky_Q_init : MethodName := ({ cls := "BorderDesk$Quotas", name := "<init>", desc := "(LBorderDesk$Tariff;)V" } : Jvm.MethodName)
abbrev kc_O_init : ByteArray := prog_6_method_1_code
def ky_O_init : MethodName := ({ cls := "BorderDesk$Origins", name := "<init>", desc := "(LBorderDesk$Tariff;)V" } : Jvm.MethodName)
abbrev kc_D_init : ByteArray := prog_3_method_1_code
def ky_D_init : MethodName := ({ cls := "BorderDesk$Declarations", name := "<init>", desc := "()V" } : Jvm.MethodName)
abbrev kc_A_init : ByteArray := prog_2_method_1_code
def ky_A_init : MethodName := ({ cls := "BorderDesk$Assessor", name := "<init>", desc := "(LBorderDesk$Tariff;LBorderDesk$Rates;LBorderDesk$Quotas;LBorderDesk$Declarations;)V" } : Jvm.MethodName)
abbrev kc_L_init : ByteArray := prog_5_method_1_code
def ky_L_init : MethodName := ({ cls := "BorderDesk$Lots", name := "<init>", desc := "()V" } : Jvm.MethodName)
abbrev kc_G_init : ByteArray := prog_4_method_1_code
def ky_G_init : MethodName := ({ cls := "BorderDesk$Ledger", name := "<init>", desc := "()V" } : Jvm.MethodName)
abbrev kc_B_init : ByteArray := prog_1_method_1_code
def ky_B_init : MethodName := ({ cls := "BorderDesk", name := "<init>", desc := "()V" } : Jvm.MethodName)
abbrev kc_M_init : ByteArray := prog_11_method_1_code
def ky_M_init : MethodName := ({ cls := "BorderDeskModel", name := "<init>", desc := "()V" } : Jvm.MethodName)
theorem kd_T_init_0 : decode kc_T_init 0 = .ok (.aload_n 0, 1) := by decide +kernel
theorem kd_T_init_1 : decode kc_T_init 1 = .ok (.invokespecial 3, 3) := by decide +kernel
theorem kd_T_init_4 : decode kc_T_init 4 = .ok (.aload_n 0, 1) := by decide +kernel
theorem kd_T_init_5 : decode kc_T_init 5 = .ok (.bipush 24, 2) := by decide +kernel
theorem kd_T_init_7 : decode kc_T_init 7 = .ok (.newarray .int, 2) := by decide +kernel
theorem kd_T_init_9 : decode kc_T_init 9 = .ok (.putfield 11, 3) := by decide +kernel
theorem kd_T_init_12 : decode kc_T_init 12 = .ok (.aload_n 0, 1) := by decide +kernel
theorem kd_T_init_13 : decode kc_T_init 13 = .ok (.bipush 24, 2) := by decide +kernel
theorem kd_T_init_15 : decode kc_T_init 15 = .ok (.newarray .int, 2) := by decide +kernel
theorem kd_T_init_17 : decode kc_T_init 17 = .ok (.putfield 15, 3) := by decide +kernel
theorem kd_T_init_20 : decode kc_T_init 20 = .ok (.aload_n 0, 1) := by decide +kernel
theorem kd_T_init_21 : decode kc_T_init 21 = .ok (.bipush 24, 2) := by decide +kernel
theorem kd_T_init_23 : decode kc_T_init 23 = .ok (.newarray .int, 2) := by decide +kernel
theorem kd_T_init_25 : decode kc_T_init 25 = .ok (.putfield 18, 3) := by decide +kernel
theorem kd_T_init_28 : decode kc_T_init 28 = .ok (.aload_n 0, 1) := by decide +kernel
theorem kd_T_init_29 : decode kc_T_init 29 = .ok (.bipush 24, 2) := by decide +kernel
theorem kd_T_init_31 : decode kc_T_init 31 = .ok (.newarray .int, 2) := by decide +kernel
theorem kd_T_init_33 : decode kc_T_init 33 = .ok (.putfield 21, 3) := by decide +kernel
theorem kd_T_init_36 : decode kc_T_init 36 = .ok (.aload_n 0, 1) := by decide +kernel
theorem kd_T_init_37 : decode kc_T_init 37 = .ok (.bipush 40, 2) := by decide +kernel
theorem kd_T_init_39 : decode kc_T_init 39 = .ok (.newarray .int, 2) := by decide +kernel
theorem kd_T_init_41 : decode kc_T_init 41 = .ok (.putfield 24, 3) := by decide +kernel
theorem kd_T_init_44 : decode kc_T_init 44 = .ok (.aload_n 0, 1) := by decide +kernel
theorem kd_T_init_45 : decode kc_T_init 45 = .ok (.bipush 40, 2) := by decide +kernel
theorem kd_T_init_47 : decode kc_T_init 47 = .ok (.newarray .int, 2) := by decide +kernel
theorem kd_T_init_49 : decode kc_T_init 49 = .ok (.putfield 27, 3) := by decide +kernel
theorem kd_T_init_52 : decode kc_T_init 52 = .ok (.aload_n 0, 1) := by decide +kernel
theorem kd_T_init_53 : decode kc_T_init 53 = .ok (.bipush 40, 2) := by decide +kernel
theorem kd_T_init_55 : decode kc_T_init 55 = .ok (.newarray .int, 2) := by decide +kernel
theorem kd_T_init_57 : decode kc_T_init 57 = .ok (.putfield 30, 3) := by decide +kernel
theorem kd_T_init_60 : decode kc_T_init 60 = .ok (.aload_n 0, 1) := by decide +kernel
theorem kd_T_init_61 : decode kc_T_init 61 = .ok (.bipush 40, 2) := by decide +kernel
theorem kd_T_init_63 : decode kc_T_init 63 = .ok (.newarray .int, 2) := by decide +kernel
theorem kd_T_init_65 : decode kc_T_init 65 = .ok (.putfield 33, 3) := by decide +kernel
theorem kd_T_init_68 : decode kc_T_init 68 = .ok (.aload_n 0, 1) := by decide +kernel
theorem kd_T_init_69 : decode kc_T_init 69 = .ok (.bipush 16, 2) := by decide +kernel
theorem kd_T_init_71 : decode kc_T_init 71 = .ok (.bipush 8, 2) := by decide +kernel
theorem kd_T_init_73 : decode kc_T_init 73 = .ok (.multianewarray 36 2, 4) := by decide +kernel
theorem kd_T_init_77 : decode kc_T_init 77 = .ok (.putfield 38, 3) := by decide +kernel
theorem kd_T_init_80 : decode kc_T_init 80 = .ok (.aload_n 0, 1) := by decide +kernel
theorem kd_T_init_81 : decode kc_T_init 81 = .ok (.bipush 24, 2) := by decide +kernel
theorem kd_T_init_83 : decode kc_T_init 83 = .ok (.newarray .boolean, 2) := by decide +kernel
theorem kd_T_init_85 : decode kc_T_init 85 = .ok (.putfield 41, 3) := by decide +kernel
theorem kd_T_init_88 : decode kc_T_init 88 = .ok (.aload_n 0, 1) := by decide +kernel
theorem kd_T_init_89 : decode kc_T_init 89 = .ok (.bipush 24, 2) := by decide +kernel
theorem kd_T_init_91 : decode kc_T_init 91 = .ok (.newarray .int, 2) := by decide +kernel
theorem kd_T_init_93 : decode kc_T_init 93 = .ok (.putfield 45, 3) := by decide +kernel
theorem kd_T_init_96 : decode kc_T_init 96 = .ok (.return_, 1) := by decide +kernel
theorem kd_R_init_0 : decode kc_R_init 0 = .ok (.aload_n 0, 1) := by decide +kernel
theorem kd_R_init_1 : decode kc_R_init 1 = .ok (.invokespecial 3, 3) := by decide +kernel
theorem kd_R_init_4 : decode kc_R_init 4 = .ok (.aload_n 0, 1) := by decide +kernel
theorem kd_R_init_5 : decode kc_R_init 5 = .ok (.bipush 40, 2) := by decide +kernel
theorem kd_R_init_7 : decode kc_R_init 7 = .ok (.newarray .int, 2) := by decide +kernel
theorem kd_R_init_9 : decode kc_R_init 9 = .ok (.putfield 11, 3) := by decide +kernel
theorem kd_R_init_12 : decode kc_R_init 12 = .ok (.aload_n 0, 1) := by decide +kernel
theorem kd_R_init_13 : decode kc_R_init 13 = .ok (.bipush 40, 2) := by decide +kernel
theorem kd_R_init_15 : decode kc_R_init 15 = .ok (.newarray .int, 2) := by decide +kernel
theorem kd_R_init_17 : decode kc_R_init 17 = .ok (.putfield 15, 3) := by decide +kernel
theorem kd_R_init_20 : decode kc_R_init 20 = .ok (.aload_n 0, 1) := by decide +kernel
theorem kd_R_init_21 : decode kc_R_init 21 = .ok (.bipush 40, 2) := by decide +kernel
theorem kd_R_init_23 : decode kc_R_init 23 = .ok (.newarray .int, 2) := by decide +kernel
theorem kd_R_init_25 : decode kc_R_init 25 = .ok (.putfield 18, 3) := by decide +kernel
theorem kd_R_init_28 : decode kc_R_init 28 = .ok (.aload_n 0, 1) := by decide +kernel
theorem kd_R_init_29 : decode kc_R_init 29 = .ok (.bipush 40, 2) := by decide +kernel
theorem kd_R_init_31 : decode kc_R_init 31 = .ok (.newarray .int, 2) := by decide +kernel
theorem kd_R_init_33 : decode kc_R_init 33 = .ok (.putfield 21, 3) := by decide +kernel
theorem kd_R_init_36 : decode kc_R_init 36 = .ok (.aload_n 0, 1) := by decide +kernel
theorem kd_R_init_37 : decode kc_R_init 37 = .ok (.bipush 40, 2) := by decide +kernel
theorem kd_R_init_39 : decode kc_R_init 39 = .ok (.newarray .int, 2) := by decide +kernel
theorem kd_R_init_41 : decode kc_R_init 41 = .ok (.putfield 24, 3) := by decide +kernel
theorem kd_R_init_44 : decode kc_R_init 44 = .ok (.aload_n 0, 1) := by decide +kernel
theorem kd_R_init_45 : decode kc_R_init 45 = .ok (.bipush 40, 2) := by decide +kernel
theorem kd_R_init_47 : decode kc_R_init 47 = .ok (.newarray .int, 2) := by decide +kernel
theorem kd_R_init_49 : decode kc_R_init 49 = .ok (.putfield 27, 3) := by decide +kernel
theorem kd_R_init_52 : decode kc_R_init 52 = .ok (.aload_n 0, 1) := by decide +kernel
theorem kd_R_init_53 : decode kc_R_init 53 = .ok (.bipush 40, 2) := by decide +kernel
theorem kd_R_init_55 : decode kc_R_init 55 = .ok (.newarray .int, 2) := by decide +kernel
theorem kd_R_init_57 : decode kc_R_init 57 = .ok (.putfield 30, 3) := by decide +kernel
theorem kd_R_init_60 : decode kc_R_init 60 = .ok (.aload_n 0, 1) := by decide +kernel
theorem kd_R_init_61 : decode kc_R_init 61 = .ok (.aload_n 1, 1) := by decide +kernel
theorem kd_R_init_62 : decode kc_R_init 62 = .ok (.putfield 33, 3) := by decide +kernel
theorem kd_R_init_65 : decode kc_R_init 65 = .ok (.return_, 1) := by decide +kernel
theorem kd_Q_init_0 : decode kc_Q_init 0 = .ok (.aload_n 0, 1) := by decide +kernel
theorem kd_Q_init_1 : decode kc_Q_init 1 = .ok (.invokespecial 3, 3) := by decide +kernel
theorem kd_Q_init_4 : decode kc_Q_init 4 = .ok (.aload_n 0, 1) := by decide +kernel
theorem kd_Q_init_5 : decode kc_Q_init 5 = .ok (.bipush 8, 2) := by decide +kernel
theorem kd_Q_init_7 : decode kc_Q_init 7 = .ok (.newarray .int, 2) := by decide +kernel
theorem kd_Q_init_9 : decode kc_Q_init 9 = .ok (.putfield 11, 3) := by decide +kernel
theorem kd_Q_init_12 : decode kc_Q_init 12 = .ok (.aload_n 0, 1) := by decide +kernel
theorem kd_Q_init_13 : decode kc_Q_init 13 = .ok (.bipush 8, 2) := by decide +kernel
theorem kd_Q_init_15 : decode kc_Q_init 15 = .ok (.newarray .int, 2) := by decide +kernel
theorem kd_Q_init_17 : decode kc_Q_init 17 = .ok (.putfield 15, 3) := by decide +kernel
theorem kd_Q_init_20 : decode kc_Q_init 20 = .ok (.aload_n 0, 1) := by decide +kernel
theorem kd_Q_init_21 : decode kc_Q_init 21 = .ok (.bipush 8, 2) := by decide +kernel
theorem kd_Q_init_23 : decode kc_Q_init 23 = .ok (.newarray .int, 2) := by decide +kernel
theorem kd_Q_init_25 : decode kc_Q_init 25 = .ok (.putfield 18, 3) := by decide +kernel
theorem kd_Q_init_28 : decode kc_Q_init 28 = .ok (.aload_n 0, 1) := by decide +kernel
theorem kd_Q_init_29 : decode kc_Q_init 29 = .ok (.bipush 8, 2) := by decide +kernel
theorem kd_Q_init_31 : decode kc_Q_init 31 = .ok (.newarray .int, 2) := by decide +kernel
theorem kd_Q_init_33 : decode kc_Q_init 33 = .ok (.putfield 21, 3) := by decide +kernel
theorem kd_Q_init_36 : decode kc_Q_init 36 = .ok (.aload_n 0, 1) := by decide +kernel
theorem kd_Q_init_37 : decode kc_Q_init 37 = .ok (.bipush 8, 2) := by decide +kernel
theorem kd_Q_init_39 : decode kc_Q_init 39 = .ok (.newarray .int, 2) := by decide +kernel
theorem kd_Q_init_41 : decode kc_Q_init 41 = .ok (.putfield 24, 3) := by decide +kernel
theorem kd_Q_init_44 : decode kc_Q_init 44 = .ok (.aload_n 0, 1) := by decide +kernel
theorem kd_Q_init_45 : decode kc_Q_init 45 = .ok (.bipush 8, 2) := by decide +kernel
theorem kd_Q_init_47 : decode kc_Q_init 47 = .ok (.newarray .int, 2) := by decide +kernel
theorem kd_Q_init_49 : decode kc_Q_init 49 = .ok (.putfield 27, 3) := by decide +kernel
theorem kd_Q_init_52 : decode kc_Q_init 52 = .ok (.aload_n 0, 1) := by decide +kernel
theorem kd_Q_init_53 : decode kc_Q_init 53 = .ok (.aload_n 1, 1) := by decide +kernel
theorem kd_Q_init_54 : decode kc_Q_init 54 = .ok (.putfield 30, 3) := by decide +kernel
theorem kd_Q_init_57 : decode kc_Q_init 57 = .ok (.return_, 1) := by decide +kernel
theorem kd_O_init_0 : decode kc_O_init 0 = .ok (.aload_n 0, 1) := by decide +kernel
theorem kd_O_init_1 : decode kc_O_init 1 = .ok (.invokespecial 3, 3) := by decide +kernel
theorem kd_O_init_4 : decode kc_O_init 4 = .ok (.aload_n 0, 1) := by decide +kernel
theorem kd_O_init_5 : decode kc_O_init 5 = .ok (.iconst 4, 1) := by decide +kernel
theorem kd_O_init_6 : decode kc_O_init 6 = .ok (.newarray .int, 2) := by decide +kernel
theorem kd_O_init_8 : decode kc_O_init 8 = .ok (.putfield 9, 3) := by decide +kernel
theorem kd_O_init_11 : decode kc_O_init 11 = .ok (.aload_n 0, 1) := by decide +kernel
theorem kd_O_init_12 : decode kc_O_init 12 = .ok (.bipush 16, 2) := by decide +kernel
theorem kd_O_init_14 : decode kc_O_init 14 = .ok (.newarray .int, 2) := by decide +kernel
theorem kd_O_init_16 : decode kc_O_init 16 = .ok (.putfield 15, 3) := by decide +kernel
theorem kd_O_init_19 : decode kc_O_init 19 = .ok (.aload_n 0, 1) := by decide +kernel
theorem kd_O_init_20 : decode kc_O_init 20 = .ok (.bipush 16, 2) := by decide +kernel
theorem kd_O_init_22 : decode kc_O_init 22 = .ok (.iconst 5, 1) := by decide +kernel
theorem kd_O_init_23 : decode kc_O_init 23 = .ok (.multianewarray 18 2, 4) := by decide +kernel
theorem kd_O_init_27 : decode kc_O_init 27 = .ok (.putfield 20, 3) := by decide +kernel
theorem kd_O_init_30 : decode kc_O_init 30 = .ok (.aload_n 0, 1) := by decide +kernel
theorem kd_O_init_31 : decode kc_O_init 31 = .ok (.bipush 16, 2) := by decide +kernel
theorem kd_O_init_33 : decode kc_O_init 33 = .ok (.iconst 5, 1) := by decide +kernel
theorem kd_O_init_34 : decode kc_O_init 34 = .ok (.multianewarray 18 2, 4) := by decide +kernel
theorem kd_O_init_38 : decode kc_O_init 38 = .ok (.putfield 23, 3) := by decide +kernel
theorem kd_O_init_41 : decode kc_O_init 41 = .ok (.aload_n 0, 1) := by decide +kernel
theorem kd_O_init_42 : decode kc_O_init 42 = .ok (.bipush 16, 2) := by decide +kernel
theorem kd_O_init_44 : decode kc_O_init 44 = .ok (.iconst 5, 1) := by decide +kernel
theorem kd_O_init_45 : decode kc_O_init 45 = .ok (.multianewarray 18 2, 4) := by decide +kernel
theorem kd_O_init_49 : decode kc_O_init 49 = .ok (.putfield 26, 3) := by decide +kernel
theorem kd_O_init_52 : decode kc_O_init 52 = .ok (.aload_n 0, 1) := by decide +kernel
theorem kd_O_init_53 : decode kc_O_init 53 = .ok (.bipush 16, 2) := by decide +kernel
theorem kd_O_init_55 : decode kc_O_init 55 = .ok (.newarray .int, 2) := by decide +kernel
theorem kd_O_init_57 : decode kc_O_init 57 = .ok (.putfield 29, 3) := by decide +kernel
theorem kd_O_init_60 : decode kc_O_init 60 = .ok (.aload_n 0, 1) := by decide +kernel
theorem kd_O_init_61 : decode kc_O_init 61 = .ok (.aload_n 1, 1) := by decide +kernel
theorem kd_O_init_62 : decode kc_O_init 62 = .ok (.putfield 32, 3) := by decide +kernel
theorem kd_O_init_65 : decode kc_O_init 65 = .ok (.return_, 1) := by decide +kernel
theorem kd_D_init_0 : decode kc_D_init 0 = .ok (.aload_n 0, 1) := by decide +kernel
theorem kd_D_init_1 : decode kc_D_init 1 = .ok (.invokespecial 3, 3) := by decide +kernel
theorem kd_D_init_4 : decode kc_D_init 4 = .ok (.aload_n 0, 1) := by decide +kernel
theorem kd_D_init_5 : decode kc_D_init 5 = .ok (.bipush 12, 2) := by decide +kernel
theorem kd_D_init_7 : decode kc_D_init 7 = .ok (.newarray .int, 2) := by decide +kernel
theorem kd_D_init_9 : decode kc_D_init 9 = .ok (.putfield 11, 3) := by decide +kernel
theorem kd_D_init_12 : decode kc_D_init 12 = .ok (.aload_n 0, 1) := by decide +kernel
theorem kd_D_init_13 : decode kc_D_init 13 = .ok (.bipush 12, 2) := by decide +kernel
theorem kd_D_init_15 : decode kc_D_init 15 = .ok (.newarray .int, 2) := by decide +kernel
theorem kd_D_init_17 : decode kc_D_init 17 = .ok (.putfield 15, 3) := by decide +kernel
theorem kd_D_init_20 : decode kc_D_init 20 = .ok (.aload_n 0, 1) := by decide +kernel
theorem kd_D_init_21 : decode kc_D_init 21 = .ok (.bipush 12, 2) := by decide +kernel
theorem kd_D_init_23 : decode kc_D_init 23 = .ok (.newarray .int, 2) := by decide +kernel
theorem kd_D_init_25 : decode kc_D_init 25 = .ok (.putfield 18, 3) := by decide +kernel
theorem kd_D_init_28 : decode kc_D_init 28 = .ok (.aload_n 0, 1) := by decide +kernel
theorem kd_D_init_29 : decode kc_D_init 29 = .ok (.bipush 12, 2) := by decide +kernel
theorem kd_D_init_31 : decode kc_D_init 31 = .ok (.iconst 2, 1) := by decide +kernel
theorem kd_D_init_32 : decode kc_D_init 32 = .ok (.multianewarray 21 2, 4) := by decide +kernel
theorem kd_D_init_36 : decode kc_D_init 36 = .ok (.putfield 23, 3) := by decide +kernel
theorem kd_D_init_39 : decode kc_D_init 39 = .ok (.aload_n 0, 1) := by decide +kernel
theorem kd_D_init_40 : decode kc_D_init 40 = .ok (.bipush 12, 2) := by decide +kernel
theorem kd_D_init_42 : decode kc_D_init 42 = .ok (.newarray .boolean, 2) := by decide +kernel
theorem kd_D_init_44 : decode kc_D_init 44 = .ok (.putfield 26, 3) := by decide +kernel
theorem kd_D_init_47 : decode kc_D_init 47 = .ok (.aload_n 0, 1) := by decide +kernel
theorem kd_D_init_48 : decode kc_D_init 48 = .ok (.bipush 12, 2) := by decide +kernel
theorem kd_D_init_50 : decode kc_D_init 50 = .ok (.newarray .int, 2) := by decide +kernel
theorem kd_D_init_52 : decode kc_D_init 52 = .ok (.putfield 30, 3) := by decide +kernel
theorem kd_D_init_55 : decode kc_D_init 55 = .ok (.aload_n 0, 1) := by decide +kernel
theorem kd_D_init_56 : decode kc_D_init 56 = .ok (.bipush 48, 2) := by decide +kernel
theorem kd_D_init_58 : decode kc_D_init 58 = .ok (.newarray .int, 2) := by decide +kernel
theorem kd_D_init_60 : decode kc_D_init 60 = .ok (.putfield 33, 3) := by decide +kernel
theorem kd_D_init_63 : decode kc_D_init 63 = .ok (.aload_n 0, 1) := by decide +kernel
theorem kd_D_init_64 : decode kc_D_init 64 = .ok (.bipush 48, 2) := by decide +kernel
theorem kd_D_init_66 : decode kc_D_init 66 = .ok (.newarray .int, 2) := by decide +kernel
theorem kd_D_init_68 : decode kc_D_init 68 = .ok (.putfield 36, 3) := by decide +kernel
theorem kd_D_init_71 : decode kc_D_init 71 = .ok (.aload_n 0, 1) := by decide +kernel
theorem kd_D_init_72 : decode kc_D_init 72 = .ok (.bipush 48, 2) := by decide +kernel
theorem kd_D_init_74 : decode kc_D_init 74 = .ok (.newarray .int, 2) := by decide +kernel
theorem kd_D_init_76 : decode kc_D_init 76 = .ok (.putfield 39, 3) := by decide +kernel
theorem kd_D_init_79 : decode kc_D_init 79 = .ok (.aload_n 0, 1) := by decide +kernel
theorem kd_D_init_80 : decode kc_D_init 80 = .ok (.bipush 48, 2) := by decide +kernel
theorem kd_D_init_82 : decode kc_D_init 82 = .ok (.newarray .int, 2) := by decide +kernel
theorem kd_D_init_84 : decode kc_D_init 84 = .ok (.putfield 42, 3) := by decide +kernel
theorem kd_D_init_87 : decode kc_D_init 87 = .ok (.aload_n 0, 1) := by decide +kernel
theorem kd_D_init_88 : decode kc_D_init 88 = .ok (.bipush 48, 2) := by decide +kernel
theorem kd_D_init_90 : decode kc_D_init 90 = .ok (.newarray .int, 2) := by decide +kernel
theorem kd_D_init_92 : decode kc_D_init 92 = .ok (.putfield 45, 3) := by decide +kernel
theorem kd_D_init_95 : decode kc_D_init 95 = .ok (.aload_n 0, 1) := by decide +kernel
theorem kd_D_init_96 : decode kc_D_init 96 = .ok (.bipush 48, 2) := by decide +kernel
theorem kd_D_init_98 : decode kc_D_init 98 = .ok (.newarray .boolean, 2) := by decide +kernel
theorem kd_D_init_100 : decode kc_D_init 100 = .ok (.putfield 48, 3) := by decide +kernel
theorem kd_D_init_103 : decode kc_D_init 103 = .ok (.aload_n 0, 1) := by decide +kernel
theorem kd_D_init_104 : decode kc_D_init 104 = .ok (.bipush 48, 2) := by decide +kernel
theorem kd_D_init_106 : decode kc_D_init 106 = .ok (.newarray .int, 2) := by decide +kernel
theorem kd_D_init_108 : decode kc_D_init 108 = .ok (.putfield 51, 3) := by decide +kernel
theorem kd_D_init_111 : decode kc_D_init 111 = .ok (.aload_n 0, 1) := by decide +kernel
theorem kd_D_init_112 : decode kc_D_init 112 = .ok (.bipush 48, 2) := by decide +kernel
theorem kd_D_init_114 : decode kc_D_init 114 = .ok (.newarray .int, 2) := by decide +kernel
theorem kd_D_init_116 : decode kc_D_init 116 = .ok (.putfield 54, 3) := by decide +kernel
theorem kd_D_init_119 : decode kc_D_init 119 = .ok (.aload_n 0, 1) := by decide +kernel
theorem kd_D_init_120 : decode kc_D_init 120 = .ok (.bipush 48, 2) := by decide +kernel
theorem kd_D_init_122 : decode kc_D_init 122 = .ok (.newarray .long, 2) := by decide +kernel
theorem kd_D_init_124 : decode kc_D_init 124 = .ok (.putfield 57, 3) := by decide +kernel
theorem kd_D_init_127 : decode kc_D_init 127 = .ok (.return_, 1) := by decide +kernel
theorem kd_A_init_0 : decode kc_A_init 0 = .ok (.aload_n 0, 1) := by decide +kernel
theorem kd_A_init_1 : decode kc_A_init 1 = .ok (.invokespecial 5, 3) := by decide +kernel
theorem kd_A_init_4 : decode kc_A_init 4 = .ok (.aload_n 0, 1) := by decide +kernel
theorem kd_A_init_5 : decode kc_A_init 5 = .ok (.iconst 4, 1) := by decide +kernel
theorem kd_A_init_6 : decode kc_A_init 6 = .ok (.newarray .int, 2) := by decide +kernel
theorem kd_A_init_8 : decode kc_A_init 8 = .ok (.putfield 13, 3) := by decide +kernel
theorem kd_A_init_11 : decode kc_A_init 11 = .ok (.aload_n 0, 1) := by decide +kernel
theorem kd_A_init_12 : decode kc_A_init 12 = .ok (.iconst 4, 1) := by decide +kernel
theorem kd_A_init_13 : decode kc_A_init 13 = .ok (.newarray .long, 2) := by decide +kernel
theorem kd_A_init_15 : decode kc_A_init 15 = .ok (.putfield 17, 3) := by decide +kernel
theorem kd_A_init_18 : decode kc_A_init 18 = .ok (.aload_n 0, 1) := by decide +kernel
theorem kd_A_init_19 : decode kc_A_init 19 = .ok (.iconst 4, 1) := by decide +kernel
theorem kd_A_init_20 : decode kc_A_init 20 = .ok (.newarray .long, 2) := by decide +kernel
theorem kd_A_init_22 : decode kc_A_init 22 = .ok (.putfield 21, 3) := by decide +kernel
theorem kd_A_init_25 : decode kc_A_init 25 = .ok (.aload_n 0, 1) := by decide +kernel
theorem kd_A_init_26 : decode kc_A_init 26 = .ok (.iconst 4, 1) := by decide +kernel
theorem kd_A_init_27 : decode kc_A_init 27 = .ok (.newarray .int, 2) := by decide +kernel
theorem kd_A_init_29 : decode kc_A_init 29 = .ok (.putfield 24, 3) := by decide +kernel
theorem kd_A_init_32 : decode kc_A_init 32 = .ok (.aload_n 0, 1) := by decide +kernel
theorem kd_A_init_33 : decode kc_A_init 33 = .ok (.iconst 4, 1) := by decide +kernel
theorem kd_A_init_34 : decode kc_A_init 34 = .ok (.newarray .int, 2) := by decide +kernel
