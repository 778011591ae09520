abbrev kc_B_heading : ByteArray := prog_1_method_2_code
def ky_B_heading : MethodName := ({ cls := "BorderDesk", name := "heading", desc := "(I)I" } : Jvm.MethodName)
abbrev kc_B_note : ByteArray := prog_1_method_3_code
def ky_B_note : MethodName := ({ cls := "BorderDesk", name := "note", desc := "(IIII)I" } : Jvm.MethodName)
abbrev kc_B_fact : ByteArray := prog_1_method_4_code
def ky_B_fact : MethodName := ({ cls := "BorderDesk", name := "fact", desc := "(III)I" } : Jvm.MethodName)
abbrev kc_B_classify : ByteArray := prog_1_method_5_code
def ky_B_classify : MethodName := ({ cls := "BorderDesk", name := "classify", desc := "(I)I" } : Jvm.MethodName)
abbrev kc_B_rate : ByteArray := prog_1_method_6_code
def ky_B_rate : MethodName := ({ cls := "BorderDesk", name := "rate", desc := "(IIIIIII)I" } : Jvm.MethodName)
abbrev kc_B_rateFor : ByteArray := prog_1_method_7_code
def ky_B_rateFor : MethodName := ({ cls := "BorderDesk", name := "rateFor", desc := "(III)I" } : Jvm.MethodName)
abbrev kc_B_quota : ByteArray := prog_1_method_8_code
def ky_B_quota : MethodName := ({ cls := "BorderDesk", name := "quota", desc := "(IIIIII)I" } : Jvm.MethodName)
abbrev kc_B_quotaLeft : ByteArray := prog_1_method_9_code
def ky_B_quotaLeft : MethodName := ({ cls := "BorderDesk", name := "quotaLeft", desc := "(I)I" } : Jvm.MethodName)
abbrev kc_B_part : ByteArray := prog_1_method_10_code
def ky_B_part : MethodName := ({ cls := "BorderDesk", name := "part", desc := "(IIII)I" } : Jvm.MethodName)
abbrev kc_B_zone : ByteArray := prog_1_method_11_code
def ky_B_zone : MethodName := ({ cls := "BorderDesk", name := "zone", desc := "(II)V" } : Jvm.MethodName)
abbrev kc_B_rule : ByteArray := prog_1_method_12_code
def ky_B_rule : MethodName := ({ cls := "BorderDesk", name := "rule", desc := "(III)V" } : Jvm.MethodName)
abbrev kc_B_madeIn : ByteArray := prog_1_method_13_code
def ky_B_madeIn : MethodName := ({ cls := "BorderDesk", name := "madeIn", desc := "(II)Z" } : Jvm.MethodName)
theorem kd_B_heading_0 : decode kc_B_heading 0 = .ok (.iload_n 1, 1) := by decide +kernel
theorem kd_B_heading_1 : decode kc_B_heading 1 = .ok (.iconst (-1), 1) := by decide +kernel
theorem kd_B_heading_2 : decode kc_B_heading 2 = .ok (.if_icmp .eq 11, 3) := by decide +kernel
theorem kd_B_heading_5 : decode kc_B_heading 5 = .ok (.aload_n 0, 1) := by decide +kernel
theorem kd_B_heading_6 : decode kc_B_heading 6 = .ok (.iload_n 1, 1) := by decide +kernel
theorem kd_B_heading_7 : decode kc_B_heading 7 = .ok (.invokevirtual 69, 3) := by decide +kernel
theorem kd_B_heading_10 : decode kc_B_heading 10 = .ok (.ifCond .eq 7, 3) := by decide +kernel
theorem kd_B_heading_13 : decode kc_B_heading 13 = .ok (.iconst 1, 1) := by decide +kernel
theorem kd_B_heading_14 : decode kc_B_heading 14 = .ok (.goto 4, 3) := by decide +kernel
theorem kd_B_heading_17 : decode kc_B_heading 17 = .ok (.iconst 0, 1) := by decide +kernel
theorem kd_B_heading_18 : decode kc_B_heading 18 = .ok (.invokestatic 73, 3) := by decide +kernel
theorem kd_B_heading_21 : decode kc_B_heading 21 = .ok (.aload_n 0, 1) := by decide +kernel
theorem kd_B_heading_22 : decode kc_B_heading 22 = .ok (.getfield 10, 3) := by decide +kernel
theorem kd_B_heading_25 : decode kc_B_heading 25 = .ok (.getfield 77, 3) := by decide +kernel
theorem kd_B_heading_28 : decode kc_B_heading 28 = .ok (.bipush 24, 2) := by decide +kernel
theorem kd_B_heading_30 : decode kc_B_heading 30 = .ok (.if_icmp .ge 7, 3) := by decide +kernel
theorem kd_B_heading_33 : decode kc_B_heading 33 = .ok (.iconst 1, 1) := by decide +kernel
theorem kd_B_heading_34 : decode kc_B_heading 34 = .ok (.goto 4, 3) := by decide +kernel
theorem kd_B_heading_37 : decode kc_B_heading 37 = .ok (.iconst 0, 1) := by decide +kernel
theorem kd_B_heading_38 : decode kc_B_heading 38 = .ok (.invokestatic 81, 3) := by decide +kernel
theorem kd_B_heading_41 : decode kc_B_heading 41 = .ok (.aload_n 0, 1) := by decide +kernel
theorem kd_B_heading_42 : decode kc_B_heading 42 = .ok (.getfield 10, 3) := by decide +kernel
theorem kd_B_heading_45 : decode kc_B_heading 45 = .ok (.iload_n 1, 1) := by decide +kernel
theorem kd_B_heading_46 : decode kc_B_heading 46 = .ok (.invokevirtual 84, 3) := by decide +kernel
theorem kd_B_heading_49 : decode kc_B_heading 49 = .ok (.iconst 5, 1) := by decide +kernel
theorem kd_B_heading_50 : decode kc_B_heading 50 = .ok (.if_icmp .gt 7, 3) := by decide +kernel
theorem kd_B_heading_53 : decode kc_B_heading 53 = .ok (.iconst 1, 1) := by decide +kernel
theorem kd_B_heading_54 : decode kc_B_heading 54 = .ok (.goto 4, 3) := by decide +kernel
theorem kd_B_heading_57 : decode kc_B_heading 57 = .ok (.iconst 0, 1) := by decide +kernel
theorem kd_B_heading_58 : decode kc_B_heading 58 = .ok (.invokestatic 81, 3) := by decide +kernel
theorem kd_B_heading_61 : decode kc_B_heading 61 = .ok (.aload_n 0, 1) := by decide +kernel
theorem kd_B_heading_62 : decode kc_B_heading 62 = .ok (.getfield 10, 3) := by decide +kernel
theorem kd_B_heading_65 : decode kc_B_heading 65 = .ok (.iload_n 1, 1) := by decide +kernel
theorem kd_B_heading_66 : decode kc_B_heading 66 = .ok (.invokevirtual 88, 3) := by decide +kernel
theorem kd_B_heading_69 : decode kc_B_heading 69 = .ok (.ireturn, 1) := by decide +kernel
theorem kd_B_note_0 : decode kc_B_note 0 = .ok (.aload_n 0, 1) := by decide +kernel
theorem kd_B_note_1 : decode kc_B_note 1 = .ok (.iload_n 1, 1) := by decide +kernel
theorem kd_B_note_2 : decode kc_B_note 2 = .ok (.invokevirtual 69, 3) := by decide +kernel
theorem kd_B_note_5 : decode kc_B_note 5 = .ok (.ifCond .eq 14, 3) := by decide +kernel
theorem kd_B_note_8 : decode kc_B_note 8 = .ok (.iload_n 3, 1) := by decide +kernel
theorem kd_B_note_9 : decode kc_B_note 9 = .ok (.invokestatic 91, 3) := by decide +kernel
theorem kd_B_note_12 : decode kc_B_note 12 = .ok (.ifCond .eq 7, 3) := by decide +kernel
theorem kd_B_note_15 : decode kc_B_note 15 = .ok (.iconst 1, 1) := by decide +kernel
theorem kd_B_note_16 : decode kc_B_note 16 = .ok (.goto 4, 3) := by decide +kernel
theorem kd_B_note_19 : decode kc_B_note 19 = .ok (.iconst 0, 1) := by decide +kernel
theorem kd_B_note_20 : decode kc_B_note 20 = .ok (.invokestatic 73, 3) := by decide +kernel
theorem kd_B_note_23 : decode kc_B_note 23 = .ok (.iload_n 2, 1) := by decide +kernel
theorem kd_B_note_24 : decode kc_B_note 24 = .ok (.iconst 0, 1) := by decide +kernel
theorem kd_B_note_25 : decode kc_B_note 25 = .ok (.iconst 2, 1) := by decide +kernel
theorem kd_B_note_26 : decode kc_B_note 26 = .ok (.invokestatic 94, 3) := by decide +kernel
theorem kd_B_note_29 : decode kc_B_note 29 = .ok (.invokestatic 73, 3) := by decide +kernel
theorem kd_B_note_32 : decode kc_B_note 32 = .ok (.iload 4, 2) := by decide +kernel
theorem kd_B_note_34 : decode kc_B_note 34 = .ok (.iconst 1, 1) := by decide +kernel
theorem kd_B_note_35 : decode kc_B_note 35 = .ok (.sipush 1000, 3) := by decide +kernel
theorem kd_B_note_38 : decode kc_B_note 38 = .ok (.invokestatic 94, 3) := by decide +kernel
theorem kd_B_note_41 : decode kc_B_note 41 = .ok (.invokestatic 73, 3) := by decide +kernel
theorem kd_B_note_44 : decode kc_B_note 44 = .ok (.iload_n 2, 1) := by decide +kernel
theorem kd_B_note_45 : decode kc_B_note 45 = .ok (.iconst 2, 1) := by decide +kernel
theorem kd_B_note_46 : decode kc_B_note 46 = .ok (.if_icmp .ne 8, 3) := by decide +kernel
theorem kd_B_note_49 : decode kc_B_note 49 = .ok (.iload_n 3, 1) := by decide +kernel
theorem kd_B_note_50 : decode kc_B_note 50 = .ok (.iconst 4, 1) := by decide +kernel
theorem kd_B_note_51 : decode kc_B_note 51 = .ok (.if_icmp .ge 7, 3) := by decide +kernel
theorem kd_B_note_54 : decode kc_B_note 54 = .ok (.iconst 1, 1) := by decide +kernel
theorem kd_B_note_55 : decode kc_B_note 55 = .ok (.goto 4, 3) := by decide +kernel
theorem kd_B_note_58 : decode kc_B_note 58 = .ok (.iconst 0, 1) := by decide +kernel
theorem kd_B_note_59 : decode kc_B_note 59 = .ok (.invokestatic 73, 3) := by decide +kernel
theorem kd_B_note_62 : decode kc_B_note 62 = .ok (.aload_n 0, 1) := by decide +kernel
theorem kd_B_note_63 : decode kc_B_note 63 = .ok (.getfield 10, 3) := by decide +kernel
theorem kd_B_note_66 : decode kc_B_note 66 = .ok (.getfield 98, 3) := by decide +kernel
theorem kd_B_note_69 : decode kc_B_note 69 = .ok (.bipush 40, 2) := by decide +kernel
theorem kd_B_note_71 : decode kc_B_note 71 = .ok (.if_icmp .ge 7, 3) := by decide +kernel
theorem kd_B_note_74 : decode kc_B_note 74 = .ok (.iconst 1, 1) := by decide +kernel
theorem kd_B_note_75 : decode kc_B_note 75 = .ok (.goto 4, 3) := by decide +kernel
theorem kd_B_note_78 : decode kc_B_note 78 = .ok (.iconst 0, 1) := by decide +kernel
theorem kd_B_note_79 : decode kc_B_note 79 = .ok (.invokestatic 81, 3) := by decide +kernel
theorem kd_B_note_82 : decode kc_B_note 82 = .ok (.aload_n 0, 1) := by decide +kernel
theorem kd_B_note_83 : decode kc_B_note 83 = .ok (.getfield 10, 3) := by decide +kernel
theorem kd_B_note_86 : decode kc_B_note 86 = .ok (.iload_n 1, 1) := by decide +kernel
theorem kd_B_note_87 : decode kc_B_note 87 = .ok (.iload_n 2, 1) := by decide +kernel
theorem kd_B_note_88 : decode kc_B_note 88 = .ok (.iload_n 3, 1) := by decide +kernel
theorem kd_B_note_89 : decode kc_B_note 89 = .ok (.iload 4, 2) := by decide +kernel
theorem kd_B_note_91 : decode kc_B_note 91 = .ok (.invokevirtual 101, 3) := by decide +kernel
theorem kd_B_note_94 : decode kc_B_note 94 = .ok (.ireturn, 1) := by decide +kernel
theorem kd_B_fact_0 : decode kc_B_fact 0 = .ok (.iload_n 1, 1) := by decide +kernel
theorem kd_B_fact_1 : decode kc_B_fact 1 = .ok (.invokestatic 105, 3) := by decide +kernel
theorem kd_B_fact_4 : decode kc_B_fact 4 = .ok (.ifCond .eq 14, 3) := by decide +kernel
theorem kd_B_fact_7 : decode kc_B_fact 7 = .ok (.iload_n 2, 1) := by decide +kernel
theorem kd_B_fact_8 : decode kc_B_fact 8 = .ok (.invokestatic 91, 3) := by decide +kernel
theorem kd_B_fact_11 : decode kc_B_fact 11 = .ok (.ifCond .eq 7, 3) := by decide +kernel
theorem kd_B_fact_14 : decode kc_B_fact 14 = .ok (.iconst 1, 1) := by decide +kernel
theorem kd_B_fact_15 : decode kc_B_fact 15 = .ok (.goto 4, 3) := by decide +kernel
theorem kd_B_fact_18 : decode kc_B_fact 18 = .ok (.iconst 0, 1) := by decide +kernel
theorem kd_B_fact_19 : decode kc_B_fact 19 = .ok (.invokestatic 73, 3) := by decide +kernel
theorem kd_B_fact_22 : decode kc_B_fact 22 = .ok (.iload_n 3, 1) := by decide +kernel
theorem kd_B_fact_23 : decode kc_B_fact 23 = .ok (.iconst 0, 1) := by decide +kernel
theorem kd_B_fact_24 : decode kc_B_fact 24 = .ok (.sipush 1000, 3) := by decide +kernel
theorem kd_B_fact_27 : decode kc_B_fact 27 = .ok (.invokestatic 94, 3) := by decide +kernel
theorem kd_B_fact_30 : decode kc_B_fact 30 = .ok (.invokestatic 73, 3) := by decide +kernel
theorem kd_B_fact_33 : decode kc_B_fact 33 = .ok (.aload_n 0, 1) := by decide +kernel
theorem kd_B_fact_34 : decode kc_B_fact 34 = .ok (.getfield 10, 3) := by decide +kernel
theorem kd_B_fact_37 : decode kc_B_fact 37 = .ok (.getfield 108, 3) := by decide +kernel
theorem kd_B_fact_40 : decode kc_B_fact 40 = .ok (.iload_n 1, 1) := by decide +kernel
theorem kd_B_fact_41 : decode kc_B_fact 41 = .ok (.aaload, 1) := by decide +kernel
theorem kd_B_fact_42 : decode kc_B_fact 42 = .ok (.iload_n 2, 1) := by decide +kernel
theorem kd_B_fact_43 : decode kc_B_fact 43 = .ok (.iaload, 1) := by decide +kernel
theorem kd_B_fact_44 : decode kc_B_fact 44 = .ok (.istore 4, 2) := by decide +kernel
theorem kd_B_fact_46 : decode kc_B_fact 46 = .ok (.aload_n 0, 1) := by decide +kernel
theorem kd_B_fact_47 : decode kc_B_fact 47 = .ok (.getfield 10, 3) := by decide +kernel
theorem kd_B_fact_50 : decode kc_B_fact 50 = .ok (.getfield 108, 3) := by decide +kernel
theorem kd_B_fact_53 : decode kc_B_fact 53 = .ok (.iload_n 1, 1) := by decide +kernel
theorem kd_B_fact_54 : decode kc_B_fact 54 = .ok (.aaload, 1) := by decide +kernel
theorem kd_B_fact_55 : decode kc_B_fact 55 = .ok (.iload_n 2, 1) := by decide +kernel
theorem kd_B_fact_56 : decode kc_B_fact 56 = .ok (.iload_n 3, 1) := by decide +kernel
theorem kd_B_fact_57 : decode kc_B_fact 57 = .ok (.iastore, 1) := by decide +kernel
theorem kd_B_fact_58 : decode kc_B_fact 58 = .ok (.iload 4, 2) := by decide +kernel
theorem kd_B_fact_60 : decode kc_B_fact 60 = .ok (.ireturn, 1) := by decide +kernel
theorem kd_B_classify_0 : decode kc_B_classify 0 = .ok (.iload_n 1, 1) := by decide +kernel
theorem kd_B_classify_1 : decode kc_B_classify 1 = .ok (.invokestatic 105, 3) := by decide +kernel
theorem kd_B_classify_4 : decode kc_B_classify 4 = .ok (.invokestatic 73, 3) := by decide +kernel
theorem kd_B_classify_7 : decode kc_B_classify 7 = .ok (.aload_n 0, 1) := by decide +kernel
theorem kd_B_classify_8 : decode kc_B_classify 8 = .ok (.getfield 10, 3) := by decide +kernel
theorem kd_B_classify_11 : decode kc_B_classify 11 = .ok (.iload_n 1, 1) := by decide +kernel
theorem kd_B_classify_12 : decode kc_B_classify 12 = .ok (.invokevirtual 112, 3) := by decide +kernel
theorem kd_B_classify_15 : decode kc_B_classify 15 = .ok (.ireturn, 1) := by decide +kernel
theorem kd_B_rate_0 : decode kc_B_rate 0 = .ok (.aload_n 0, 1) := by decide +kernel
theorem kd_B_rate_1 : decode kc_B_rate 1 = .ok (.iload_n 1, 1) := by decide +kernel
theorem kd_B_rate_2 : decode kc_B_rate 2 = .ok (.invokevirtual 69, 3) := by decide +kernel
theorem kd_B_rate_5 : decode kc_B_rate 5 = .ok (.ifCond .eq 19, 3) := by decide +kernel
theorem kd_B_rate_8 : decode kc_B_rate 8 = .ok (.iload_n 2, 1) := by decide +kernel
theorem kd_B_rate_9 : decode kc_B_rate 9 = .ok (.iconst (-1), 1) := by decide +kernel
theorem kd_B_rate_10 : decode kc_B_rate 10 = .ok (.if_icmp .eq 10, 3) := by decide +kernel
theorem kd_B_rate_13 : decode kc_B_rate 13 = .ok (.iload_n 2, 1) := by decide +kernel
theorem kd_B_rate_14 : decode kc_B_rate 14 = .ok (.invokestatic 115, 3) := by decide +kernel
theorem kd_B_rate_17 : decode kc_B_rate 17 = .ok (.ifCond .eq 7, 3) := by decide +kernel
theorem kd_B_rate_20 : decode kc_B_rate 20 = .ok (.iconst 1, 1) := by decide +kernel
theorem kd_B_rate_21 : decode kc_B_rate 21 = .ok (.goto 4, 3) := by decide +kernel
theorem kd_B_rate_24 : decode kc_B_rate 24 = .ok (.iconst 0, 1) := by decide +kernel
theorem kd_B_rate_25 : decode kc_B_rate 25 = .ok (.invokestatic 73, 3) := by decide +kernel
theorem kd_B_rate_28 : decode kc_B_rate 28 = .ok (.iload_n 3, 1) := by decide +kernel
theorem kd_B_rate_29 : decode kc_B_rate 29 = .ok (.iconst 0, 1) := by decide +kernel
theorem kd_B_rate_30 : decode kc_B_rate 30 = .ok (.iconst 3, 1) := by decide +kernel
theorem kd_B_rate_31 : decode kc_B_rate 31 = .ok (.invokestatic 94, 3) := by decide +kernel
theorem kd_B_rate_34 : decode kc_B_rate 34 = .ok (.invokestatic 73, 3) := by decide +kernel
theorem kd_B_rate_37 : decode kc_B_rate 37 = .ok (.iload 4, 2) := by decide +kernel
theorem kd_B_rate_39 : decode kc_B_rate 39 = .ok (.iconst 0, 1) := by decide +kernel
theorem kd_B_rate_40 : decode kc_B_rate 40 = .ok (.sipush 10000, 3) := by decide +kernel
theorem kd_B_rate_43 : decode kc_B_rate 43 = .ok (.invokestatic 94, 3) := by decide +kernel
theorem kd_B_rate_46 : decode kc_B_rate 46 = .ok (.ifCond .eq 19, 3) := by decide +kernel
theorem kd_B_rate_49 : decode kc_B_rate 49 = .ok (.iload 5, 2) := by decide +kernel
theorem kd_B_rate_51 : decode kc_B_rate 51 = .ok (.iconst 0, 1) := by decide +kernel
theorem kd_B_rate_52 : decode kc_B_rate 52 = .ok (.sipush 10000, 3) := by decide +kernel
theorem kd_B_rate_55 : decode kc_B_rate 55 = .ok (.invokestatic 94, 3) := by decide +kernel
theorem kd_B_rate_58 : decode kc_B_rate 58 = .ok (.ifCond .eq 7, 3) := by decide +kernel
theorem kd_B_rate_61 : decode kc_B_rate 61 = .ok (.iconst 1, 1) := by decide +kernel
theorem kd_B_rate_62 : decode kc_B_rate 62 = .ok (.goto 4, 3) := by decide +kernel
theorem kd_B_rate_65 : decode kc_B_rate 65 = .ok (.iconst 0, 1) := by decide +kernel
theorem kd_B_rate_66 : decode kc_B_rate 66 = .ok (.invokestatic 73, 3) := by decide +kernel
theorem kd_B_rate_69 : decode kc_B_rate 69 = .ok (.iload 6, 2) := by decide +kernel
theorem kd_B_rate_71 : decode kc_B_rate 71 = .ok (.invokestatic 118, 3) := by decide +kernel
theorem kd_B_rate_74 : decode kc_B_rate 74 = .ok (.ifCond .eq 22, 3) := by decide +kernel
theorem kd_B_rate_77 : decode kc_B_rate 77 = .ok (.iload 7, 2) := by decide +kernel
theorem kd_B_rate_79 : decode kc_B_rate 79 = .ok (.invokestatic 118, 3) := by decide +kernel
theorem kd_B_rate_82 : decode kc_B_rate 82 = .ok (.ifCond .eq 14, 3) := by decide +kernel
theorem kd_B_rate_85 : decode kc_B_rate 85 = .ok (.iload 6, 2) := by decide +kernel
theorem kd_B_rate_87 : decode kc_B_rate 87 = .ok (.iload 7, 2) := by decide +kernel
theorem kd_B_rate_89 : decode kc_B_rate 89 = .ok (.if_icmp .gt 7, 3) := by decide +kernel
theorem kd_B_rate_92 : decode kc_B_rate 92 = .ok (.iconst 1, 1) := by decide +kernel
theorem kd_B_rate_93 : decode kc_B_rate 93 = .ok (.goto 4, 3) := by decide +kernel
theorem kd_B_rate_96 : decode kc_B_rate 96 = .ok (.iconst 0, 1) := by decide +kernel
theorem kd_B_rate_97 : decode kc_B_rate 97 = .ok (.invokestatic 73, 3) := by decide +kernel
theorem kd_B_rate_100 : decode kc_B_rate 100 = .ok (.aload_n 0, 1) := by decide +kernel
theorem kd_B_rate_101 : decode kc_B_rate 101 = .ok (.getfield 21, 3) := by decide +kernel
theorem kd_B_rate_104 : decode kc_B_rate 104 = .ok (.getfield 121, 3) := by decide +kernel
theorem kd_B_rate_107 : decode kc_B_rate 107 = .ok (.bipush 40, 2) := by decide +kernel
theorem kd_B_rate_109 : decode kc_B_rate 109 = .ok (.if_icmp .ge 7, 3) := by decide +kernel
theorem kd_B_rate_112 : decode kc_B_rate 112 = .ok (.iconst 1, 1) := by decide +kernel
theorem kd_B_rate_113 : decode kc_B_rate 113 = .ok (.goto 4, 3) := by decide +kernel
theorem kd_B_rate_116 : decode kc_B_rate 116 = .ok (.iconst 0, 1) := by decide +kernel
theorem kd_B_rate_117 : decode kc_B_rate 117 = .ok (.invokestatic 81, 3) := by decide +kernel
theorem kd_B_rate_120 : decode kc_B_rate 120 = .ok (.aload_n 0, 1) := by decide +kernel
theorem kd_B_rate_121 : decode kc_B_rate 121 = .ok (.getfield 21, 3) := by decide +kernel
theorem kd_B_rate_124 : decode kc_B_rate 124 = .ok (.iload_n 1, 1) := by decide +kernel
theorem kd_B_rate_125 : decode kc_B_rate 125 = .ok (.iload_n 2, 1) := by decide +kernel
theorem kd_B_rate_126 : decode kc_B_rate 126 = .ok (.iload_n 3, 1) := by decide +kernel
theorem kd_B_rate_127 : decode kc_B_rate 127 = .ok (.iload 4, 2) := by decide +kernel
theorem kd_B_rate_129 : decode kc_B_rate 129 = .ok (.iload 5, 2) := by decide +kernel
theorem kd_B_rate_131 : decode kc_B_rate 131 = .ok (.iload 6, 2) := by decide +kernel
theorem kd_B_rate_133 : decode kc_B_rate 133 = .ok (.iload 7, 2) := by decide +kernel
theorem kd_B_rate_135 : decode kc_B_rate 135 = .ok (.invokevirtual 124, 3) := by decide +kernel
theorem kd_B_rate_138 : decode kc_B_rate 138 = .ok (.ireturn, 1) := by decide +kernel
theorem kd_B_rateFor_0 : decode kc_B_rateFor 0 = .ok (.aload_n 0, 1) := by decide +kernel
theorem kd_B_rateFor_1 : decode kc_B_rateFor 1 = .ok (.iload_n 1, 1) := by decide +kernel
theorem kd_B_rateFor_2 : decode kc_B_rateFor 2 = .ok (.invokevirtual 69, 3) := by decide +kernel
theorem kd_B_rateFor_5 : decode kc_B_rateFor 5 = .ok (.ifCond .eq 21, 3) := by decide +kernel
theorem kd_B_rateFor_8 : decode kc_B_rateFor 8 = .ok (.iload_n 2, 1) := by decide +kernel
theorem kd_B_rateFor_9 : decode kc_B_rateFor 9 = .ok (.invokestatic 115, 3) := by decide +kernel
theorem kd_B_rateFor_12 : decode kc_B_rateFor 12 = .ok (.ifCond .eq 14, 3) := by decide +kernel
theorem kd_B_rateFor_15 : decode kc_B_rateFor 15 = .ok (.iload_n 3, 1) := by decide +kernel
theorem kd_B_rateFor_16 : decode kc_B_rateFor 16 = .ok (.invokestatic 118, 3) := by decide +kernel
theorem kd_B_rateFor_19 : decode kc_B_rateFor 19 = .ok (.ifCond .eq 7, 3) := by decide +kernel
theorem kd_B_rateFor_22 : decode kc_B_rateFor 22 = .ok (.iconst 1, 1) := by decide +kernel
theorem kd_B_rateFor_23 : decode kc_B_rateFor 23 = .ok (.goto 4, 3) := by decide +kernel
theorem kd_B_rateFor_26 : decode kc_B_rateFor 26 = .ok (.iconst 0, 1) := by decide +kernel
theorem kd_B_rateFor_27 : decode kc_B_rateFor 27 = .ok (.invokestatic 73, 3) := by decide +kernel
theorem kd_B_rateFor_30 : decode kc_B_rateFor 30 = .ok (.aload_n 0, 1) := by decide +kernel
theorem kd_B_rateFor_31 : decode kc_B_rateFor 31 = .ok (.getfield 21, 3) := by decide +kernel
theorem kd_B_rateFor_34 : decode kc_B_rateFor 34 = .ok (.iload_n 1, 1) := by decide +kernel
theorem kd_B_rateFor_35 : decode kc_B_rateFor 35 = .ok (.iload_n 2, 1) := by decide +kernel
theorem kd_B_rateFor_36 : decode kc_B_rateFor 36 = .ok (.iload_n 3, 1) := by decide +kernel
theorem kd_B_rateFor_37 : decode kc_B_rateFor 37 = .ok (.invokevirtual 128, 3) := by decide +kernel
theorem kd_B_rateFor_40 : decode kc_B_rateFor 40 = .ok (.ireturn, 1) := by decide +kernel
theorem kd_B_quota_0 : decode kc_B_quota 0 = .ok (.aload_n 0, 1) := by decide +kernel
theorem kd_B_quota_1 : decode kc_B_quota 1 = .ok (.iload_n 1, 1) := by decide +kernel
theorem kd_B_quota_2 : decode kc_B_quota 2 = .ok (.invokevirtual 69, 3) := by decide +kernel
theorem kd_B_quota_5 : decode kc_B_quota 5 = .ok (.ifCond .eq 14, 3) := by decide +kernel
theorem kd_B_quota_8 : decode kc_B_quota 8 = .ok (.iload_n 2, 1) := by decide +kernel
theorem kd_B_quota_9 : decode kc_B_quota 9 = .ok (.invokestatic 115, 3) := by decide +kernel
theorem kd_B_quota_12 : decode kc_B_quota 12 = .ok (.ifCond .eq 7, 3) := by decide +kernel
theorem kd_B_quota_15 : decode kc_B_quota 15 = .ok (.iconst 1, 1) := by decide +kernel
theorem kd_B_quota_16 : decode kc_B_quota 16 = .ok (.goto 4, 3) := by decide +kernel
theorem kd_B_quota_19 : decode kc_B_quota 19 = .ok (.iconst 0, 1) := by decide +kernel
theorem kd_B_quota_20 : decode kc_B_quota 20 = .ok (.invokestatic 73, 3) := by decide +kernel
theorem kd_B_quota_23 : decode kc_B_quota 23 = .ok (.iload_n 3, 1) := by decide +kernel
theorem kd_B_quota_24 : decode kc_B_quota 24 = .ok (.iconst 1, 1) := by decide +kernel
theorem kd_B_quota_25 : decode kc_B_quota 25 = .ok (.ldc 132, 2) := by decide +kernel
theorem kd_B_quota_27 : decode kc_B_quota 27 = .ok (.invokestatic 94, 3) := by decide +kernel
