abbrev kc_W_heading : ByteArray := method_3_code
def ky_W_heading : MethodName := ({ cls := "BorderDeskLaw", name := "heading", desc := "(LBorderDesk;I[J)I" } : Jvm.MethodName)
abbrev kc_W_note : ByteArray := method_4_code
def ky_W_note : MethodName := ({ cls := "BorderDeskLaw", name := "note", desc := "(LBorderDesk;IIII[J)I" } : Jvm.MethodName)
abbrev kc_W_fact : ByteArray := method_5_code
def ky_W_fact : MethodName := ({ cls := "BorderDeskLaw", name := "fact", desc := "(LBorderDesk;III[J)I" } : Jvm.MethodName)
abbrev kc_W_classify : ByteArray := method_6_code
def ky_W_classify : MethodName := ({ cls := "BorderDeskLaw", name := "classify", desc := "(LBorderDesk;I[J)I" } : Jvm.MethodName)
abbrev kc_W_rate : ByteArray := method_7_code
def ky_W_rate : MethodName := ({ cls := "BorderDeskLaw", name := "rate", desc := "(LBorderDesk;IIIIIII[J)I" } : Jvm.MethodName)
abbrev kc_W_rateFor : ByteArray := method_8_code
def ky_W_rateFor : MethodName := ({ cls := "BorderDeskLaw", name := "rateFor", desc := "(LBorderDesk;III[J)I" } : Jvm.MethodName)
abbrev kc_W_quota : ByteArray := method_9_code
def ky_W_quota : MethodName := ({ cls := "BorderDeskLaw", name := "quota", desc := "(LBorderDesk;IIIIII[J)I" } : Jvm.MethodName)
abbrev kc_W_quotaLeft : ByteArray := method_10_code
def ky_W_quotaLeft : MethodName := ({ cls := "BorderDeskLaw", name := "quotaLeft", desc := "(LBorderDesk;I[J)I" } : Jvm.MethodName)
abbrev kc_W_part : ByteArray := method_11_code
def ky_W_part : MethodName := ({ cls := "BorderDeskLaw", name := "part", desc := "(LBorderDesk;IIII[J)I" } : Jvm.MethodName)
abbrev kc_W_zone : ByteArray := method_12_code
def ky_W_zone : MethodName := ({ cls := "BorderDeskLaw", name := "zone", desc := "(LBorderDesk;II)I" } : Jvm.MethodName)
abbrev kc_W_rule : ByteArray := method_13_code
def ky_W_rule : MethodName := ({ cls := "BorderDeskLaw", name := "rule", desc := "(LBorderDesk;III)I" } : Jvm.MethodName)
abbrev kc_W_madeIn : ByteArray := method_14_code
def ky_W_madeIn : MethodName := ({ cls := "BorderDeskLaw", name := "madeIn", desc := "(LBorderDesk;II[J)I" } : Jvm.MethodName)
abbrev kc_W_declare : ByteArray := method_15_code
def ky_W_declare : MethodName := ({ cls := "BorderDeskLaw", name := "declare", desc := "(LBorderDesk;II[J)I" } : Jvm.MethodName)
abbrev kc_W_line : ByteArray := method_16_code
def ky_W_line : MethodName := ({ cls := "BorderDeskLaw", name := "line", desc := "(LBorderDesk;IIIIIIZ[J)I" } : Jvm.MethodName)
abbrev kc_W_charge : ByteArray := method_17_code
def ky_W_charge : MethodName := ({ cls := "BorderDeskLaw", name := "charge", desc := "(LBorderDesk;III)I" } : Jvm.MethodName)
abbrev kc_W_lineOf : ByteArray := method_18_code
def ky_W_lineOf : MethodName := ({ cls := "BorderDeskLaw", name := "lineOf", desc := "(LBorderDesk;III[J)I" } : Jvm.MethodName)
abbrev kc_W_accept : ByteArray := method_19_code
def ky_W_accept : MethodName := ({ cls := "BorderDeskLaw", name := "accept", desc := "(LBorderDesk;I[J)I" } : Jvm.MethodName)
abbrev kc_W_amend : ByteArray := method_20_code
def ky_W_amend : MethodName := ({ cls := "BorderDeskLaw", name := "amend", desc := "(LBorderDesk;IIII[J)I" } : Jvm.MethodName)
abbrev kc_W_release : ByteArray := method_21_code
def ky_W_release : MethodName := ({ cls := "BorderDeskLaw", name := "release", desc := "(LBorderDesk;II[J)I" } : Jvm.MethodName)
abbrev kc_W_export : ByteArray := method_22_code
def ky_W_export : MethodName := ({ cls := "BorderDeskLaw", name := "export", desc := "(LBorderDesk;II[J)I" } : Jvm.MethodName)
abbrev kc_W_work : ByteArray := method_23_code
def ky_W_work : MethodName := ({ cls := "BorderDeskLaw", name := "work", desc := "(LBorderDesk;IIII[J)I" } : Jvm.MethodName)
abbrev kc_W_lot : ByteArray := method_24_code
def ky_W_lot : MethodName := ({ cls := "BorderDeskLaw", name := "lot", desc := "(LBorderDesk;II[J)I" } : Jvm.MethodName)
abbrev kc_W_account : ByteArray := method_25_code
def ky_W_account : MethodName := ({ cls := "BorderDeskLaw", name := "account", desc := "(LBorderDesk;II[J)I" } : Jvm.MethodName)
abbrev kc_W_books : ByteArray := method_26_code
def ky_W_books : MethodName := ({ cls := "BorderDeskLaw", name := "books", desc := "(LBorderDesk;I[J)I" } : Jvm.MethodName)
theorem kd_W_heading_0 : decode kc_W_heading 0 = .ok (.aload_n 2, 1) := by decide +kernel
theorem kd_W_heading_1 : decode kc_W_heading 1 = .ok (.iconst 0, 1) := by decide +kernel
theorem kd_W_heading_2 : decode kc_W_heading 2 = .ok (.aload_n 0, 1) := by decide +kernel
theorem kd_W_heading_3 : decode kc_W_heading 3 = .ok (.iload_n 1, 1) := by decide +kernel
theorem kd_W_heading_4 : decode kc_W_heading 4 = .ok (.invokevirtual 7, 3) := by decide +kernel
theorem kd_W_heading_7 : decode kc_W_heading 7 = .ok (.i2l, 1) := by decide +kernel
theorem kd_W_heading_8 : decode kc_W_heading 8 = .ok (.lastore, 1) := by decide +kernel
theorem kd_W_heading_9 : decode kc_W_heading 9 = .ok (.goto 9, 3) := by decide +kernel
theorem kd_W_heading_12 : decode kc_W_heading 12 = .ok (.astore_n 3, 1) := by decide +kernel
theorem kd_W_heading_13 : decode kc_W_heading 13 = .ok (.iconst 1, 1) := by decide +kernel
theorem kd_W_heading_14 : decode kc_W_heading 14 = .ok (.ireturn, 1) := by decide +kernel
theorem kd_W_heading_15 : decode kc_W_heading 15 = .ok (.astore_n 3, 1) := by decide +kernel
theorem kd_W_heading_16 : decode kc_W_heading 16 = .ok (.iconst 2, 1) := by decide +kernel
theorem kd_W_heading_17 : decode kc_W_heading 17 = .ok (.ireturn, 1) := by decide +kernel
theorem kd_W_heading_18 : decode kc_W_heading 18 = .ok (.iconst 0, 1) := by decide +kernel
theorem kd_W_heading_19 : decode kc_W_heading 19 = .ok (.ireturn, 1) := by decide +kernel
theorem kd_W_note_0 : decode kc_W_note 0 = .ok (.aload 5, 2) := by decide +kernel
theorem kd_W_note_2 : decode kc_W_note 2 = .ok (.iconst 0, 1) := by decide +kernel
theorem kd_W_note_3 : decode kc_W_note 3 = .ok (.aload_n 0, 1) := by decide +kernel
theorem kd_W_note_4 : decode kc_W_note 4 = .ok (.iload_n 1, 1) := by decide +kernel
theorem kd_W_note_5 : decode kc_W_note 5 = .ok (.iload_n 2, 1) := by decide +kernel
theorem kd_W_note_6 : decode kc_W_note 6 = .ok (.iload_n 3, 1) := by decide +kernel
theorem kd_W_note_7 : decode kc_W_note 7 = .ok (.iload 4, 2) := by decide +kernel
theorem kd_W_note_9 : decode kc_W_note 9 = .ok (.invokevirtual 17, 3) := by decide +kernel
theorem kd_W_note_12 : decode kc_W_note 12 = .ok (.i2l, 1) := by decide +kernel
theorem kd_W_note_13 : decode kc_W_note 13 = .ok (.lastore, 1) := by decide +kernel
theorem kd_W_note_14 : decode kc_W_note 14 = .ok (.goto 11, 3) := by decide +kernel
theorem kd_W_note_17 : decode kc_W_note 17 = .ok (.astore 6, 2) := by decide +kernel
theorem kd_W_note_19 : decode kc_W_note 19 = .ok (.iconst 1, 1) := by decide +kernel
theorem kd_W_note_20 : decode kc_W_note 20 = .ok (.ireturn, 1) := by decide +kernel
theorem kd_W_note_21 : decode kc_W_note 21 = .ok (.astore 6, 2) := by decide +kernel
theorem kd_W_note_23 : decode kc_W_note 23 = .ok (.iconst 2, 1) := by decide +kernel
theorem kd_W_note_24 : decode kc_W_note 24 = .ok (.ireturn, 1) := by decide +kernel
theorem kd_W_note_25 : decode kc_W_note 25 = .ok (.iconst 0, 1) := by decide +kernel
theorem kd_W_note_26 : decode kc_W_note 26 = .ok (.ireturn, 1) := by decide +kernel
theorem kd_W_fact_0 : decode kc_W_fact 0 = .ok (.aload 4, 2) := by decide +kernel
theorem kd_W_fact_2 : decode kc_W_fact 2 = .ok (.iconst 0, 1) := by decide +kernel
theorem kd_W_fact_3 : decode kc_W_fact 3 = .ok (.aload_n 0, 1) := by decide +kernel
theorem kd_W_fact_4 : decode kc_W_fact 4 = .ok (.iload_n 1, 1) := by decide +kernel
theorem kd_W_fact_5 : decode kc_W_fact 5 = .ok (.iload_n 2, 1) := by decide +kernel
theorem kd_W_fact_6 : decode kc_W_fact 6 = .ok (.iload_n 3, 1) := by decide +kernel
theorem kd_W_fact_7 : decode kc_W_fact 7 = .ok (.invokevirtual 21, 3) := by decide +kernel
theorem kd_W_fact_10 : decode kc_W_fact 10 = .ok (.i2l, 1) := by decide +kernel
theorem kd_W_fact_11 : decode kc_W_fact 11 = .ok (.lastore, 1) := by decide +kernel
theorem kd_W_fact_12 : decode kc_W_fact 12 = .ok (.goto 7, 3) := by decide +kernel
theorem kd_W_fact_15 : decode kc_W_fact 15 = .ok (.astore 5, 2) := by decide +kernel
theorem kd_W_fact_17 : decode kc_W_fact 17 = .ok (.iconst 1, 1) := by decide +kernel
theorem kd_W_fact_18 : decode kc_W_fact 18 = .ok (.ireturn, 1) := by decide +kernel
theorem kd_W_fact_19 : decode kc_W_fact 19 = .ok (.iconst 0, 1) := by decide +kernel
theorem kd_W_fact_20 : decode kc_W_fact 20 = .ok (.ireturn, 1) := by decide +kernel
theorem kd_W_classify_0 : decode kc_W_classify 0 = .ok (.aload_n 2, 1) := by decide +kernel
theorem kd_W_classify_1 : decode kc_W_classify 1 = .ok (.iconst 0, 1) := by decide +kernel
theorem kd_W_classify_2 : decode kc_W_classify 2 = .ok (.aload_n 0, 1) := by decide +kernel
theorem kd_W_classify_3 : decode kc_W_classify 3 = .ok (.iload_n 1, 1) := by decide +kernel
theorem kd_W_classify_4 : decode kc_W_classify 4 = .ok (.invokevirtual 25, 3) := by decide +kernel
theorem kd_W_classify_7 : decode kc_W_classify 7 = .ok (.i2l, 1) := by decide +kernel
theorem kd_W_classify_8 : decode kc_W_classify 8 = .ok (.lastore, 1) := by decide +kernel
theorem kd_W_classify_9 : decode kc_W_classify 9 = .ok (.goto 6, 3) := by decide +kernel
theorem kd_W_classify_12 : decode kc_W_classify 12 = .ok (.astore_n 3, 1) := by decide +kernel
theorem kd_W_classify_13 : decode kc_W_classify 13 = .ok (.iconst 1, 1) := by decide +kernel
theorem kd_W_classify_14 : decode kc_W_classify 14 = .ok (.ireturn, 1) := by decide +kernel
theorem kd_W_classify_15 : decode kc_W_classify 15 = .ok (.iconst 0, 1) := by decide +kernel
theorem kd_W_classify_16 : decode kc_W_classify 16 = .ok (.ireturn, 1) := by decide +kernel
theorem kd_W_rate_0 : decode kc_W_rate 0 = .ok (.aload 8, 2) := by decide +kernel
theorem kd_W_rate_2 : decode kc_W_rate 2 = .ok (.iconst 0, 1) := by decide +kernel
theorem kd_W_rate_3 : decode kc_W_rate 3 = .ok (.aload_n 0, 1) := by decide +kernel
theorem kd_W_rate_4 : decode kc_W_rate 4 = .ok (.iload_n 1, 1) := by decide +kernel
theorem kd_W_rate_5 : decode kc_W_rate 5 = .ok (.iload_n 2, 1) := by decide +kernel
theorem kd_W_rate_6 : decode kc_W_rate 6 = .ok (.iload_n 3, 1) := by decide +kernel
theorem kd_W_rate_7 : decode kc_W_rate 7 = .ok (.iload 4, 2) := by decide +kernel
theorem kd_W_rate_9 : decode kc_W_rate 9 = .ok (.iload 5, 2) := by decide +kernel
theorem kd_W_rate_11 : decode kc_W_rate 11 = .ok (.iload 6, 2) := by decide +kernel
theorem kd_W_rate_13 : decode kc_W_rate 13 = .ok (.iload 7, 2) := by decide +kernel
theorem kd_W_rate_15 : decode kc_W_rate 15 = .ok (.invokevirtual 28, 3) := by decide +kernel
theorem kd_W_rate_18 : decode kc_W_rate 18 = .ok (.i2l, 1) := by decide +kernel
theorem kd_W_rate_19 : decode kc_W_rate 19 = .ok (.lastore, 1) := by decide +kernel
theorem kd_W_rate_20 : decode kc_W_rate 20 = .ok (.goto 11, 3) := by decide +kernel
theorem kd_W_rate_23 : decode kc_W_rate 23 = .ok (.astore 9, 2) := by decide +kernel
theorem kd_W_rate_25 : decode kc_W_rate 25 = .ok (.iconst 1, 1) := by decide +kernel
theorem kd_W_rate_26 : decode kc_W_rate 26 = .ok (.ireturn, 1) := by decide +kernel
theorem kd_W_rate_27 : decode kc_W_rate 27 = .ok (.astore 9, 2) := by decide +kernel
theorem kd_W_rate_29 : decode kc_W_rate 29 = .ok (.iconst 2, 1) := by decide +kernel
theorem kd_W_rate_30 : decode kc_W_rate 30 = .ok (.ireturn, 1) := by decide +kernel
theorem kd_W_rate_31 : decode kc_W_rate 31 = .ok (.iconst 0, 1) := by decide +kernel
theorem kd_W_rate_32 : decode kc_W_rate 32 = .ok (.ireturn, 1) := by decide +kernel
theorem kd_W_rateFor_0 : decode kc_W_rateFor 0 = .ok (.aload 4, 2) := by decide +kernel
theorem kd_W_rateFor_2 : decode kc_W_rateFor 2 = .ok (.iconst 0, 1) := by decide +kernel
theorem kd_W_rateFor_3 : decode kc_W_rateFor 3 = .ok (.aload_n 0, 1) := by decide +kernel
theorem kd_W_rateFor_4 : decode kc_W_rateFor 4 = .ok (.iload_n 1, 1) := by decide +kernel
theorem kd_W_rateFor_5 : decode kc_W_rateFor 5 = .ok (.iload_n 2, 1) := by decide +kernel
theorem kd_W_rateFor_6 : decode kc_W_rateFor 6 = .ok (.iload_n 3, 1) := by decide +kernel
theorem kd_W_rateFor_7 : decode kc_W_rateFor 7 = .ok (.invokevirtual 32, 3) := by decide +kernel
theorem kd_W_rateFor_10 : decode kc_W_rateFor 10 = .ok (.i2l, 1) := by decide +kernel
theorem kd_W_rateFor_11 : decode kc_W_rateFor 11 = .ok (.lastore, 1) := by decide +kernel
theorem kd_W_rateFor_12 : decode kc_W_rateFor 12 = .ok (.goto 7, 3) := by decide +kernel
theorem kd_W_rateFor_15 : decode kc_W_rateFor 15 = .ok (.astore 5, 2) := by decide +kernel
theorem kd_W_rateFor_17 : decode kc_W_rateFor 17 = .ok (.iconst 1, 1) := by decide +kernel
theorem kd_W_rateFor_18 : decode kc_W_rateFor 18 = .ok (.ireturn, 1) := by decide +kernel
theorem kd_W_rateFor_19 : decode kc_W_rateFor 19 = .ok (.iconst 0, 1) := by decide +kernel
theorem kd_W_rateFor_20 : decode kc_W_rateFor 20 = .ok (.ireturn, 1) := by decide +kernel
theorem kd_W_quota_0 : decode kc_W_quota 0 = .ok (.aload 7, 2) := by decide +kernel
theorem kd_W_quota_2 : decode kc_W_quota 2 = .ok (.iconst 0, 1) := by decide +kernel
theorem kd_W_quota_3 : decode kc_W_quota 3 = .ok (.aload_n 0, 1) := by decide +kernel
theorem kd_W_quota_4 : decode kc_W_quota 4 = .ok (.iload_n 1, 1) := by decide +kernel
theorem kd_W_quota_5 : decode kc_W_quota 5 = .ok (.iload_n 2, 1) := by decide +kernel
theorem kd_W_quota_6 : decode kc_W_quota 6 = .ok (.iload_n 3, 1) := by decide +kernel
theorem kd_W_quota_7 : decode kc_W_quota 7 = .ok (.iload 4, 2) := by decide +kernel
theorem kd_W_quota_9 : decode kc_W_quota 9 = .ok (.iload 5, 2) := by decide +kernel
theorem kd_W_quota_11 : decode kc_W_quota 11 = .ok (.iload 6, 2) := by decide +kernel
theorem kd_W_quota_13 : decode kc_W_quota 13 = .ok (.invokevirtual 35, 3) := by decide +kernel
theorem kd_W_quota_16 : decode kc_W_quota 16 = .ok (.i2l, 1) := by decide +kernel
theorem kd_W_quota_17 : decode kc_W_quota 17 = .ok (.lastore, 1) := by decide +kernel
theorem kd_W_quota_18 : decode kc_W_quota 18 = .ok (.goto 11, 3) := by decide +kernel
theorem kd_W_quota_21 : decode kc_W_quota 21 = .ok (.astore 8, 2) := by decide +kernel
theorem kd_W_quota_23 : decode kc_W_quota 23 = .ok (.iconst 1, 1) := by decide +kernel
theorem kd_W_quota_24 : decode kc_W_quota 24 = .ok (.ireturn, 1) := by decide +kernel
theorem kd_W_quota_25 : decode kc_W_quota 25 = .ok (.astore 8, 2) := by decide +kernel
theorem kd_W_quota_27 : decode kc_W_quota 27 = .ok (.iconst 2, 1) := by decide +kernel
theorem kd_W_quota_28 : decode kc_W_quota 28 = .ok (.ireturn, 1) := by decide +kernel
theorem kd_W_quota_29 : decode kc_W_quota 29 = .ok (.iconst 0, 1) := by decide +kernel
theorem kd_W_quota_30 : decode kc_W_quota 30 = .ok (.ireturn, 1) := by decide +kernel
theorem kd_W_quotaLeft_0 : decode kc_W_quotaLeft 0 = .ok (.aload_n 2, 1) := by decide +kernel
theorem kd_W_quotaLeft_1 : decode kc_W_quotaLeft 1 = .ok (.iconst 0, 1) := by decide +kernel
theorem kd_W_quotaLeft_2 : decode kc_W_quotaLeft 2 = .ok (.aload_n 0, 1) := by decide +kernel
theorem kd_W_quotaLeft_3 : decode kc_W_quotaLeft 3 = .ok (.iload_n 1, 1) := by decide +kernel
theorem kd_W_quotaLeft_4 : decode kc_W_quotaLeft 4 = .ok (.invokevirtual 39, 3) := by decide +kernel
theorem kd_W_quotaLeft_7 : decode kc_W_quotaLeft 7 = .ok (.i2l, 1) := by decide +kernel
theorem kd_W_quotaLeft_8 : decode kc_W_quotaLeft 8 = .ok (.lastore, 1) := by decide +kernel
theorem kd_W_quotaLeft_9 : decode kc_W_quotaLeft 9 = .ok (.goto 6, 3) := by decide +kernel
theorem kd_W_quotaLeft_12 : decode kc_W_quotaLeft 12 = .ok (.astore_n 3, 1) := by decide +kernel
theorem kd_W_quotaLeft_13 : decode kc_W_quotaLeft 13 = .ok (.iconst 1, 1) := by decide +kernel
theorem kd_W_quotaLeft_14 : decode kc_W_quotaLeft 14 = .ok (.ireturn, 1) := by decide +kernel
theorem kd_W_quotaLeft_15 : decode kc_W_quotaLeft 15 = .ok (.iconst 0, 1) := by decide +kernel
theorem kd_W_quotaLeft_16 : decode kc_W_quotaLeft 16 = .ok (.ireturn, 1) := by decide +kernel
theorem kd_W_part_0 : decode kc_W_part 0 = .ok (.aload 5, 2) := by decide +kernel
theorem kd_W_part_2 : decode kc_W_part 2 = .ok (.iconst 0, 1) := by decide +kernel
theorem kd_W_part_3 : decode kc_W_part 3 = .ok (.aload_n 0, 1) := by decide +kernel
theorem kd_W_part_4 : decode kc_W_part 4 = .ok (.iload_n 1, 1) := by decide +kernel
theorem kd_W_part_5 : decode kc_W_part 5 = .ok (.iload_n 2, 1) := by decide +kernel
theorem kd_W_part_6 : decode kc_W_part 6 = .ok (.iload_n 3, 1) := by decide +kernel
theorem kd_W_part_7 : decode kc_W_part 7 = .ok (.iload 4, 2) := by decide +kernel
theorem kd_W_part_9 : decode kc_W_part 9 = .ok (.invokevirtual 42, 3) := by decide +kernel
theorem kd_W_part_12 : decode kc_W_part 12 = .ok (.i2l, 1) := by decide +kernel
theorem kd_W_part_13 : decode kc_W_part 13 = .ok (.lastore, 1) := by decide +kernel
theorem kd_W_part_14 : decode kc_W_part 14 = .ok (.goto 11, 3) := by decide +kernel
theorem kd_W_part_17 : decode kc_W_part 17 = .ok (.astore 6, 2) := by decide +kernel
theorem kd_W_part_19 : decode kc_W_part 19 = .ok (.iconst 1, 1) := by decide +kernel
theorem kd_W_part_20 : decode kc_W_part 20 = .ok (.ireturn, 1) := by decide +kernel
theorem kd_W_part_21 : decode kc_W_part 21 = .ok (.astore 6, 2) := by decide +kernel
theorem kd_W_part_23 : decode kc_W_part 23 = .ok (.iconst 2, 1) := by decide +kernel
theorem kd_W_part_24 : decode kc_W_part 24 = .ok (.ireturn, 1) := by decide +kernel
theorem kd_W_part_25 : decode kc_W_part 25 = .ok (.iconst 0, 1) := by decide +kernel
theorem kd_W_part_26 : decode kc_W_part 26 = .ok (.ireturn, 1) := by decide +kernel
theorem kd_W_zone_0 : decode kc_W_zone 0 = .ok (.aload_n 0, 1) := by decide +kernel
theorem kd_W_zone_1 : decode kc_W_zone 1 = .ok (.iload_n 1, 1) := by decide +kernel
theorem kd_W_zone_2 : decode kc_W_zone 2 = .ok (.iload_n 2, 1) := by decide +kernel
theorem kd_W_zone_3 : decode kc_W_zone 3 = .ok (.invokevirtual 45, 3) := by decide +kernel
theorem kd_W_zone_6 : decode kc_W_zone 6 = .ok (.goto 6, 3) := by decide +kernel
theorem kd_W_zone_9 : decode kc_W_zone 9 = .ok (.astore_n 3, 1) := by decide +kernel
theorem kd_W_zone_10 : decode kc_W_zone 10 = .ok (.iconst 1, 1) := by decide +kernel
theorem kd_W_zone_11 : decode kc_W_zone 11 = .ok (.ireturn, 1) := by decide +kernel
theorem kd_W_zone_12 : decode kc_W_zone 12 = .ok (.iconst 0, 1) := by decide +kernel
theorem kd_W_zone_13 : decode kc_W_zone 13 = .ok (.ireturn, 1) := by decide +kernel
theorem kd_W_rule_0 : decode kc_W_rule 0 = .ok (.aload_n 0, 1) := by decide +kernel
theorem kd_W_rule_1 : decode kc_W_rule 1 = .ok (.iload_n 1, 1) := by decide +kernel
theorem kd_W_rule_2 : decode kc_W_rule 2 = .ok (.iload_n 2, 1) := by decide +kernel
theorem kd_W_rule_3 : decode kc_W_rule 3 = .ok (.iload_n 3, 1) := by decide +kernel
theorem kd_W_rule_4 : decode kc_W_rule 4 = .ok (.invokevirtual 49, 3) := by decide +kernel
theorem kd_W_rule_7 : decode kc_W_rule 7 = .ok (.goto 7, 3) := by decide +kernel
theorem kd_W_rule_10 : decode kc_W_rule 10 = .ok (.astore 4, 2) := by decide +kernel
theorem kd_W_rule_12 : decode kc_W_rule 12 = .ok (.iconst 1, 1) := by decide +kernel
theorem kd_W_rule_13 : decode kc_W_rule 13 = .ok (.ireturn, 1) := by decide +kernel
theorem kd_W_rule_14 : decode kc_W_rule 14 = .ok (.iconst 0, 1) := by decide +kernel
theorem kd_W_rule_15 : decode kc_W_rule 15 = .ok (.ireturn, 1) := by decide +kernel
theorem kd_W_madeIn_0 : decode kc_W_madeIn 0 = .ok (.aload_n 3, 1) := by decide +kernel
theorem kd_W_madeIn_1 : decode kc_W_madeIn 1 = .ok (.iconst 0, 1) := by decide +kernel
theorem kd_W_madeIn_2 : decode kc_W_madeIn 2 = .ok (.aload_n 0, 1) := by decide +kernel
theorem kd_W_madeIn_3 : decode kc_W_madeIn 3 = .ok (.iload_n 1, 1) := by decide +kernel
theorem kd_W_madeIn_4 : decode kc_W_madeIn 4 = .ok (.iload_n 2, 1) := by decide +kernel
theorem kd_W_madeIn_5 : decode kc_W_madeIn 5 = .ok (.invokevirtual 53, 3) := by decide +kernel
theorem kd_W_madeIn_8 : decode kc_W_madeIn 8 = .ok (.ifCond .eq 7, 3) := by decide +kernel
theorem kd_W_madeIn_11 : decode kc_W_madeIn 11 = .ok (.lconst 1, 1) := by decide +kernel
theorem kd_W_madeIn_12 : decode kc_W_madeIn 12 = .ok (.goto 4, 3) := by decide +kernel
theorem kd_W_madeIn_15 : decode kc_W_madeIn 15 = .ok (.lconst 0, 1) := by decide +kernel
theorem kd_W_madeIn_16 : decode kc_W_madeIn 16 = .ok (.lastore, 1) := by decide +kernel
theorem kd_W_madeIn_17 : decode kc_W_madeIn 17 = .ok (.goto 7, 3) := by decide +kernel
theorem kd_W_madeIn_20 : decode kc_W_madeIn 20 = .ok (.astore 4, 2) := by decide +kernel
theorem kd_W_madeIn_22 : decode kc_W_madeIn 22 = .ok (.iconst 1, 1) := by decide +kernel
theorem kd_W_madeIn_23 : decode kc_W_madeIn 23 = .ok (.ireturn, 1) := by decide +kernel
theorem kd_W_madeIn_24 : decode kc_W_madeIn 24 = .ok (.iconst 0, 1) := by decide +kernel
theorem kd_W_madeIn_25 : decode kc_W_madeIn 25 = .ok (.ireturn, 1) := by decide +kernel
theorem kd_W_declare_0 : decode kc_W_declare 0 = .ok (.aload_n 3, 1) := by decide +kernel
theorem kd_W_declare_1 : decode kc_W_declare 1 = .ok (.iconst 0, 1) := by decide +kernel
theorem kd_W_declare_2 : decode kc_W_declare 2 = .ok (.aload_n 0, 1) := by decide +kernel
theorem kd_W_declare_3 : decode kc_W_declare 3 = .ok (.iload_n 1, 1) := by decide +kernel
theorem kd_W_declare_4 : decode kc_W_declare 4 = .ok (.iload_n 2, 1) := by decide +kernel
theorem kd_W_declare_5 : decode kc_W_declare 5 = .ok (.invokevirtual 57, 3) := by decide +kernel
theorem kd_W_declare_8 : decode kc_W_declare 8 = .ok (.i2l, 1) := by decide +kernel
theorem kd_W_declare_9 : decode kc_W_declare 9 = .ok (.lastore, 1) := by decide +kernel
theorem kd_W_declare_10 : decode kc_W_declare 10 = .ok (.goto 11, 3) := by decide +kernel
theorem kd_W_declare_13 : decode kc_W_declare 13 = .ok (.astore 4, 2) := by decide +kernel
theorem kd_W_declare_15 : decode kc_W_declare 15 = .ok (.iconst 1, 1) := by decide +kernel
