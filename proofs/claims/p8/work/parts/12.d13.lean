theorem kd_A_valueOf_11 : decode kc_A_valueOf 11 = .ok (.lreturn, 1) := by decide +kernel
theorem kd_A_roundHalvesUp_0 : decode kc_A_roundHalvesUp 0 = .ok (.lload_n 2, 1) := by decide +kernel
theorem kd_A_roundHalvesUp_1 : decode kc_A_roundHalvesUp 1 = .ok (.lconst 0, 1) := by decide +kernel
theorem kd_A_roundHalvesUp_2 : decode kc_A_roundHalvesUp 2 = .ok (.lcmp, 1) := by decide +kernel
theorem kd_A_roundHalvesUp_3 : decode kc_A_roundHalvesUp 3 = .ok (.ifCond .gt 7, 3) := by decide +kernel
theorem kd_A_roundHalvesUp_6 : decode kc_A_roundHalvesUp 6 = .ok (.lconst 0, 1) := by decide +kernel
theorem kd_A_roundHalvesUp_7 : decode kc_A_roundHalvesUp 7 = .ok (.goto 16, 3) := by decide +kernel
theorem kd_A_roundHalvesUp_10 : decode kc_A_roundHalvesUp 10 = .ok (.ldc2_w 144, 3) := by decide +kernel
theorem kd_A_roundHalvesUp_13 : decode kc_A_roundHalvesUp 13 = .ok (.lload_n 0, 1) := by decide +kernel
theorem kd_A_roundHalvesUp_14 : decode kc_A_roundHalvesUp 14 = .ok (.lmul, 1) := by decide +kernel
theorem kd_A_roundHalvesUp_15 : decode kc_A_roundHalvesUp 15 = .ok (.lload_n 2, 1) := by decide +kernel
theorem kd_A_roundHalvesUp_16 : decode kc_A_roundHalvesUp 16 = .ok (.ladd, 1) := by decide +kernel
theorem kd_A_roundHalvesUp_17 : decode kc_A_roundHalvesUp 17 = .ok (.ldc2_w 144, 3) := by decide +kernel
theorem kd_A_roundHalvesUp_20 : decode kc_A_roundHalvesUp 20 = .ok (.lload_n 2, 1) := by decide +kernel
theorem kd_A_roundHalvesUp_21 : decode kc_A_roundHalvesUp 21 = .ok (.lmul, 1) := by decide +kernel
theorem kd_A_roundHalvesUp_22 : decode kc_A_roundHalvesUp 22 = .ok (.ldiv, 1) := by decide +kernel
theorem kd_A_roundHalvesUp_23 : decode kc_A_roundHalvesUp 23 = .ok (.lreturn, 1) := by decide +kernel
theorem kd_A_dutyOf_0 : decode kc_A_dutyOf 0 = .ok (.aload_n 0, 1) := by decide +kernel
theorem kd_A_dutyOf_1 : decode kc_A_dutyOf 1 = .ok (.getfield 53, 3) := by decide +kernel
theorem kd_A_dutyOf_4 : decode kc_A_dutyOf 4 = .ok (.getfield 89, 3) := by decide +kernel
theorem kd_A_dutyOf_7 : decode kc_A_dutyOf 7 = .ok (.iload_n 2, 1) := by decide +kernel
theorem kd_A_dutyOf_8 : decode kc_A_dutyOf 8 = .ok (.iaload, 1) := by decide +kernel
theorem kd_A_dutyOf_9 : decode kc_A_dutyOf 9 = .ok (.i2l, 1) := by decide +kernel
theorem kd_A_dutyOf_10 : decode kc_A_dutyOf 10 = .ok (.lstore_n 3, 1) := by decide +kernel
theorem kd_A_dutyOf_11 : decode kc_A_dutyOf 11 = .ok (.aload_n 0, 1) := by decide +kernel
theorem kd_A_dutyOf_12 : decode kc_A_dutyOf 12 = .ok (.getfield 45, 3) := by decide +kernel
theorem kd_A_dutyOf_15 : decode kc_A_dutyOf 15 = .ok (.aload_n 0, 1) := by decide +kernel
theorem kd_A_dutyOf_16 : decode kc_A_dutyOf 16 = .ok (.getfield 24, 3) := by decide +kernel
theorem kd_A_dutyOf_19 : decode kc_A_dutyOf 19 = .ok (.iload_n 1, 1) := by decide +kernel
theorem kd_A_dutyOf_20 : decode kc_A_dutyOf 20 = .ok (.iaload, 1) := by decide +kernel
theorem kd_A_dutyOf_21 : decode kc_A_dutyOf 21 = .ok (.aload_n 0, 1) := by decide +kernel
theorem kd_A_dutyOf_22 : decode kc_A_dutyOf 22 = .ok (.getfield 21, 3) := by decide +kernel
theorem kd_A_dutyOf_25 : decode kc_A_dutyOf 25 = .ok (.iload_n 1, 1) := by decide +kernel
theorem kd_A_dutyOf_26 : decode kc_A_dutyOf 26 = .ok (.laload, 1) := by decide +kernel
theorem kd_A_dutyOf_27 : decode kc_A_dutyOf 27 = .ok (.aload_n 0, 1) := by decide +kernel
theorem kd_A_dutyOf_28 : decode kc_A_dutyOf 28 = .ok (.getfield 53, 3) := by decide +kernel
theorem kd_A_dutyOf_31 : decode kc_A_dutyOf 31 = .ok (.getfield 128, 3) := by decide +kernel
theorem kd_A_dutyOf_34 : decode kc_A_dutyOf 34 = .ok (.iload_n 2, 1) := by decide +kernel
theorem kd_A_dutyOf_35 : decode kc_A_dutyOf 35 = .ok (.iaload, 1) := by decide +kernel
theorem kd_A_dutyOf_36 : decode kc_A_dutyOf 36 = .ok (.i2l, 1) := by decide +kernel
theorem kd_A_dutyOf_37 : decode kc_A_dutyOf 37 = .ok (.invokevirtual 131, 3) := by decide +kernel
theorem kd_A_dutyOf_40 : decode kc_A_dutyOf 40 = .ok (.lstore 5, 2) := by decide +kernel
theorem kd_A_dutyOf_42 : decode kc_A_dutyOf 42 = .ok (.aload_n 0, 1) := by decide +kernel
theorem kd_A_dutyOf_43 : decode kc_A_dutyOf 43 = .ok (.getfield 27, 3) := by decide +kernel
theorem kd_A_dutyOf_46 : decode kc_A_dutyOf 46 = .ok (.iload_n 1, 1) := by decide +kernel
theorem kd_A_dutyOf_47 : decode kc_A_dutyOf 47 = .ok (.iaload, 1) := by decide +kernel
theorem kd_A_dutyOf_48 : decode kc_A_dutyOf 48 = .ok (.istore 7, 2) := by decide +kernel
theorem kd_A_dutyOf_50 : decode kc_A_dutyOf 50 = .ok (.iload 7, 2) := by decide +kernel
theorem kd_A_dutyOf_52 : decode kc_A_dutyOf 52 = .ok (.iconst (-1), 1) := by decide +kernel
theorem kd_A_dutyOf_53 : decode kc_A_dutyOf 53 = .ok (.if_icmp .ne 7, 3) := by decide +kernel
theorem kd_A_dutyOf_56 : decode kc_A_dutyOf 56 = .ok (.lconst 0, 1) := by decide +kernel
theorem kd_A_dutyOf_57 : decode kc_A_dutyOf 57 = .ok (.goto 21, 3) := by decide +kernel
theorem kd_A_dutyOf_60 : decode kc_A_dutyOf 60 = .ok (.aload_n 0, 1) := by decide +kernel
theorem kd_A_dutyOf_61 : decode kc_A_dutyOf 61 = .ok (.getfield 49, 3) := by decide +kernel
theorem kd_A_dutyOf_64 : decode kc_A_dutyOf 64 = .ok (.getfield 135, 3) := by decide +kernel
theorem kd_A_dutyOf_67 : decode kc_A_dutyOf 67 = .ok (.iload 7, 2) := by decide +kernel
theorem kd_A_dutyOf_69 : decode kc_A_dutyOf 69 = .ok (.iaload, 1) := by decide +kernel
theorem kd_A_dutyOf_70 : decode kc_A_dutyOf 70 = .ok (.i2l, 1) := by decide +kernel
theorem kd_A_dutyOf_71 : decode kc_A_dutyOf 71 = .ok (.aload_n 0, 1) := by decide +kernel
theorem kd_A_dutyOf_72 : decode kc_A_dutyOf 72 = .ok (.getfield 21, 3) := by decide +kernel
theorem kd_A_dutyOf_75 : decode kc_A_dutyOf 75 = .ok (.iload_n 1, 1) := by decide +kernel
theorem kd_A_dutyOf_76 : decode kc_A_dutyOf 76 = .ok (.laload, 1) := by decide +kernel
theorem kd_A_dutyOf_77 : decode kc_A_dutyOf 77 = .ok (.lmul, 1) := by decide +kernel
theorem kd_A_dutyOf_78 : decode kc_A_dutyOf 78 = .ok (.lstore 8, 2) := by decide +kernel
theorem kd_A_dutyOf_80 : decode kc_A_dutyOf 80 = .ok (.lload_n 3, 1) := by decide +kernel
theorem kd_A_dutyOf_81 : decode kc_A_dutyOf 81 = .ok (.aload_n 0, 1) := by decide +kernel
theorem kd_A_dutyOf_82 : decode kc_A_dutyOf 82 = .ok (.getfield 13, 3) := by decide +kernel
theorem kd_A_dutyOf_85 : decode kc_A_dutyOf 85 = .ok (.iload_n 1, 1) := by decide +kernel
theorem kd_A_dutyOf_86 : decode kc_A_dutyOf 86 = .ok (.iaload, 1) := by decide +kernel
theorem kd_A_dutyOf_87 : decode kc_A_dutyOf 87 = .ok (.i2l, 1) := by decide +kernel
theorem kd_A_dutyOf_88 : decode kc_A_dutyOf 88 = .ok (.lsub, 1) := by decide +kernel
theorem kd_A_dutyOf_89 : decode kc_A_dutyOf 89 = .ok (.lload 5, 2) := by decide +kernel
theorem kd_A_dutyOf_91 : decode kc_A_dutyOf 91 = .ok (.lmul, 1) := by decide +kernel
theorem kd_A_dutyOf_92 : decode kc_A_dutyOf 92 = .ok (.aload_n 0, 1) := by decide +kernel
theorem kd_A_dutyOf_93 : decode kc_A_dutyOf 93 = .ok (.getfield 13, 3) := by decide +kernel
theorem kd_A_dutyOf_96 : decode kc_A_dutyOf 96 = .ok (.iload_n 1, 1) := by decide +kernel
theorem kd_A_dutyOf_97 : decode kc_A_dutyOf 97 = .ok (.iaload, 1) := by decide +kernel
theorem kd_A_dutyOf_98 : decode kc_A_dutyOf 98 = .ok (.i2l, 1) := by decide +kernel
theorem kd_A_dutyOf_99 : decode kc_A_dutyOf 99 = .ok (.lload 8, 2) := by decide +kernel
theorem kd_A_dutyOf_101 : decode kc_A_dutyOf 101 = .ok (.lmul, 1) := by decide +kernel
theorem kd_A_dutyOf_102 : decode kc_A_dutyOf 102 = .ok (.ladd, 1) := by decide +kernel
theorem kd_A_dutyOf_103 : decode kc_A_dutyOf 103 = .ok (.lstore 10, 2) := by decide +kernel
theorem kd_A_dutyOf_105 : decode kc_A_dutyOf 105 = .ok (.lload 10, 2) := by decide +kernel
theorem kd_A_dutyOf_107 : decode kc_A_dutyOf 107 = .ok (.lload_n 3, 1) := by decide +kernel
theorem kd_A_dutyOf_108 : decode kc_A_dutyOf 108 = .ok (.ldc2_w 138, 3) := by decide +kernel
theorem kd_A_dutyOf_111 : decode kc_A_dutyOf 111 = .ok (.lmul, 1) := by decide +kernel
theorem kd_A_dutyOf_112 : decode kc_A_dutyOf 112 = .ok (.invokestatic 140, 3) := by decide +kernel
theorem kd_A_dutyOf_115 : decode kc_A_dutyOf 115 = .ok (.lreturn, 1) := by decide +kernel
theorem kd_A_findDuties_0 : decode kc_A_findDuties 0 = .ok (.aload_n 0, 1) := by decide +kernel
theorem kd_A_findDuties_1 : decode kc_A_findDuties 1 = .ok (.iload_n 1, 1) := by decide +kernel
theorem kd_A_findDuties_2 : decode kc_A_findDuties 2 = .ok (.invokevirtual 116, 3) := by decide +kernel
theorem kd_A_findDuties_5 : decode kc_A_findDuties 5 = .ok (.iconst 0, 1) := by decide +kernel
theorem kd_A_findDuties_6 : decode kc_A_findDuties 6 = .ok (.istore_n 2, 1) := by decide +kernel
theorem kd_A_findDuties_7 : decode kc_A_findDuties 7 = .ok (.iload_n 2, 1) := by decide +kernel
theorem kd_A_findDuties_8 : decode kc_A_findDuties 8 = .ok (.aload_n 0, 1) := by decide +kernel
theorem kd_A_findDuties_9 : decode kc_A_findDuties 9 = .ok (.getfield 53, 3) := by decide +kernel
theorem kd_A_findDuties_12 : decode kc_A_findDuties 12 = .ok (.getfield 57, 3) := by decide +kernel
theorem kd_A_findDuties_15 : decode kc_A_findDuties 15 = .ok (.iload_n 1, 1) := by decide +kernel
theorem kd_A_findDuties_16 : decode kc_A_findDuties 16 = .ok (.iaload, 1) := by decide +kernel
theorem kd_A_findDuties_17 : decode kc_A_findDuties 17 = .ok (.if_icmp .ge 25, 3) := by decide +kernel
theorem kd_A_findDuties_20 : decode kc_A_findDuties 20 = .ok (.aload_n 0, 1) := by decide +kernel
theorem kd_A_findDuties_21 : decode kc_A_findDuties 21 = .ok (.getfield 17, 3) := by decide +kernel
theorem kd_A_findDuties_24 : decode kc_A_findDuties 24 = .ok (.iload_n 2, 1) := by decide +kernel
theorem kd_A_findDuties_25 : decode kc_A_findDuties 25 = .ok (.aload_n 0, 1) := by decide +kernel
theorem kd_A_findDuties_26 : decode kc_A_findDuties 26 = .ok (.iload_n 2, 1) := by decide +kernel
theorem kd_A_findDuties_27 : decode kc_A_findDuties 27 = .ok (.iload_n 1, 1) := by decide +kernel
theorem kd_A_findDuties_28 : decode kc_A_findDuties 28 = .ok (.iload_n 2, 1) := by decide +kernel
theorem kd_A_findDuties_29 : decode kc_A_findDuties 29 = .ok (.invokestatic 63, 3) := by decide +kernel
theorem kd_A_findDuties_32 : decode kc_A_findDuties 32 = .ok (.invokevirtual 124, 3) := by decide +kernel
theorem kd_A_findDuties_35 : decode kc_A_findDuties 35 = .ok (.lastore, 1) := by decide +kernel
theorem kd_A_findDuties_36 : decode kc_A_findDuties 36 = .ok (.iinc 2 1, 3) := by decide +kernel
theorem kd_A_findDuties_39 : decode kc_A_findDuties 39 = .ok (.goto (-32), 3) := by decide +kernel
theorem kd_A_findDuties_42 : decode kc_A_findDuties 42 = .ok (.return_, 1) := by decide +kernel
theorem kd_A_copyQuotasLeft_0 : decode kc_A_copyQuotasLeft 0 = .ok (.aload_n 0, 1) := by decide +kernel
theorem kd_A_copyQuotasLeft_1 : decode kc_A_copyQuotasLeft 1 = .ok (.getfield 49, 3) := by decide +kernel
theorem kd_A_copyQuotasLeft_4 : decode kc_A_copyQuotasLeft 4 = .ok (.getfield 109, 3) := by decide +kernel
theorem kd_A_copyQuotasLeft_7 : decode kc_A_copyQuotasLeft 7 = .ok (.iconst 0, 1) := by decide +kernel
theorem kd_A_copyQuotasLeft_8 : decode kc_A_copyQuotasLeft 8 = .ok (.aload_n 0, 1) := by decide +kernel
theorem kd_A_copyQuotasLeft_9 : decode kc_A_copyQuotasLeft 9 = .ok (.getfield 32, 3) := by decide +kernel
theorem kd_A_copyQuotasLeft_12 : decode kc_A_copyQuotasLeft 12 = .ok (.iconst 0, 1) := by decide +kernel
theorem kd_A_copyQuotasLeft_13 : decode kc_A_copyQuotasLeft 13 = .ok (.bipush 8, 2) := by decide +kernel
theorem kd_A_copyQuotasLeft_15 : decode kc_A_copyQuotasLeft 15 = .ok (.invokestatic 110, 3) := by decide +kernel
theorem kd_A_copyQuotasLeft_18 : decode kc_A_copyQuotasLeft 18 = .ok (.return_, 1) := by decide +kernel
theorem kd_A_takeMore_0 : decode kc_A_takeMore 0 = .ok (.aload_n 0, 1) := by decide +kernel
theorem kd_A_takeMore_1 : decode kc_A_takeMore 1 = .ok (.getfield 27, 3) := by decide +kernel
theorem kd_A_takeMore_4 : decode kc_A_takeMore 4 = .ok (.iload_n 1, 1) := by decide +kernel
theorem kd_A_takeMore_5 : decode kc_A_takeMore 5 = .ok (.iaload, 1) := by decide +kernel
theorem kd_A_takeMore_6 : decode kc_A_takeMore 6 = .ok (.istore_n 3, 1) := by decide +kernel
theorem kd_A_takeMore_7 : decode kc_A_takeMore 7 = .ok (.iload_n 3, 1) := by decide +kernel
theorem kd_A_takeMore_8 : decode kc_A_takeMore 8 = .ok (.iconst (-1), 1) := by decide +kernel
theorem kd_A_takeMore_9 : decode kc_A_takeMore 9 = .ok (.if_icmp .eq 44, 3) := by decide +kernel
theorem kd_A_takeMore_12 : decode kc_A_takeMore 12 = .ok (.iload_n 2, 1) := by decide +kernel
theorem kd_A_takeMore_13 : decode kc_A_takeMore 13 = .ok (.aload_n 0, 1) := by decide +kernel
theorem kd_A_takeMore_14 : decode kc_A_takeMore 14 = .ok (.getfield 13, 3) := by decide +kernel
theorem kd_A_takeMore_17 : decode kc_A_takeMore 17 = .ok (.iload_n 1, 1) := by decide +kernel
theorem kd_A_takeMore_18 : decode kc_A_takeMore 18 = .ok (.iaload, 1) := by decide +kernel
theorem kd_A_takeMore_19 : decode kc_A_takeMore 19 = .ok (.isub, 1) := by decide +kernel
theorem kd_A_takeMore_20 : decode kc_A_takeMore 20 = .ok (.aload_n 0, 1) := by decide +kernel
theorem kd_A_takeMore_21 : decode kc_A_takeMore 21 = .ok (.getfield 32, 3) := by decide +kernel
theorem kd_A_takeMore_24 : decode kc_A_takeMore 24 = .ok (.iload_n 3, 1) := by decide +kernel
theorem kd_A_takeMore_25 : decode kc_A_takeMore 25 = .ok (.iaload, 1) := by decide +kernel
theorem kd_A_takeMore_26 : decode kc_A_takeMore 26 = .ok (.invokestatic 119, 3) := by decide +kernel
theorem kd_A_takeMore_29 : decode kc_A_takeMore 29 = .ok (.istore 4, 2) := by decide +kernel
theorem kd_A_takeMore_31 : decode kc_A_takeMore 31 = .ok (.aload_n 0, 1) := by decide +kernel
theorem kd_A_takeMore_32 : decode kc_A_takeMore 32 = .ok (.getfield 13, 3) := by decide +kernel
theorem kd_A_takeMore_35 : decode kc_A_takeMore 35 = .ok (.iload_n 1, 1) := by decide +kernel
theorem kd_A_takeMore_36 : decode kc_A_takeMore 36 = .ok (.dup2, 1) := by decide +kernel
theorem kd_A_takeMore_37 : decode kc_A_takeMore 37 = .ok (.iaload, 1) := by decide +kernel
theorem kd_A_takeMore_38 : decode kc_A_takeMore 38 = .ok (.iload 4, 2) := by decide +kernel
theorem kd_A_takeMore_40 : decode kc_A_takeMore 40 = .ok (.iadd, 1) := by decide +kernel
theorem kd_A_takeMore_41 : decode kc_A_takeMore 41 = .ok (.iastore, 1) := by decide +kernel
theorem kd_A_takeMore_42 : decode kc_A_takeMore 42 = .ok (.aload_n 0, 1) := by decide +kernel
theorem kd_A_takeMore_43 : decode kc_A_takeMore 43 = .ok (.getfield 32, 3) := by decide +kernel
theorem kd_A_takeMore_46 : decode kc_A_takeMore 46 = .ok (.iload_n 3, 1) := by decide +kernel
theorem kd_A_takeMore_47 : decode kc_A_takeMore 47 = .ok (.dup2, 1) := by decide +kernel
theorem kd_A_takeMore_48 : decode kc_A_takeMore 48 = .ok (.iaload, 1) := by decide +kernel
theorem kd_A_takeMore_49 : decode kc_A_takeMore 49 = .ok (.iload 4, 2) := by decide +kernel
theorem kd_A_takeMore_51 : decode kc_A_takeMore 51 = .ok (.isub, 1) := by decide +kernel
theorem kd_A_takeMore_52 : decode kc_A_takeMore 52 = .ok (.iastore, 1) := by decide +kernel
theorem kd_A_takeMore_53 : decode kc_A_takeMore 53 = .ok (.return_, 1) := by decide +kernel
theorem kd_A_giveBack_0 : decode kc_A_giveBack 0 = .ok (.iload_n 2, 1) := by decide +kernel
theorem kd_A_giveBack_1 : decode kc_A_giveBack 1 = .ok (.iconst (-1), 1) := by decide +kernel
theorem kd_A_giveBack_2 : decode kc_A_giveBack 2 = .ok (.if_icmp .eq 27, 3) := by decide +kernel
theorem kd_A_giveBack_5 : decode kc_A_giveBack 5 = .ok (.iload_n 3, 1) := by decide +kernel
theorem kd_A_giveBack_6 : decode kc_A_giveBack 6 = .ok (.ifCond .le 23, 3) := by decide +kernel
theorem kd_A_giveBack_9 : decode kc_A_giveBack 9 = .ok (.aload_n 0, 1) := by decide +kernel
theorem kd_A_giveBack_10 : decode kc_A_giveBack 10 = .ok (.getfield 13, 3) := by decide +kernel
theorem kd_A_giveBack_13 : decode kc_A_giveBack 13 = .ok (.iload_n 1, 1) := by decide +kernel
theorem kd_A_giveBack_14 : decode kc_A_giveBack 14 = .ok (.dup2, 1) := by decide +kernel
theorem kd_A_giveBack_15 : decode kc_A_giveBack 15 = .ok (.iaload, 1) := by decide +kernel
theorem kd_A_giveBack_16 : decode kc_A_giveBack 16 = .ok (.iload_n 3, 1) := by decide +kernel
theorem kd_A_giveBack_17 : decode kc_A_giveBack 17 = .ok (.isub, 1) := by decide +kernel
theorem kd_A_giveBack_18 : decode kc_A_giveBack 18 = .ok (.iastore, 1) := by decide +kernel
theorem kd_A_giveBack_19 : decode kc_A_giveBack 19 = .ok (.aload_n 0, 1) := by decide +kernel
theorem kd_A_giveBack_20 : decode kc_A_giveBack 20 = .ok (.getfield 32, 3) := by decide +kernel
theorem kd_A_giveBack_23 : decode kc_A_giveBack 23 = .ok (.iload_n 2, 1) := by decide +kernel
theorem kd_A_giveBack_24 : decode kc_A_giveBack 24 = .ok (.dup2, 1) := by decide +kernel
theorem kd_A_giveBack_25 : decode kc_A_giveBack 25 = .ok (.iaload, 1) := by decide +kernel
theorem kd_A_giveBack_26 : decode kc_A_giveBack 26 = .ok (.iload_n 3, 1) := by decide +kernel
theorem kd_A_giveBack_27 : decode kc_A_giveBack 27 = .ok (.iadd, 1) := by decide +kernel
theorem kd_A_giveBack_28 : decode kc_A_giveBack 28 = .ok (.iastore, 1) := by decide +kernel
theorem kd_A_giveBack_29 : decode kc_A_giveBack 29 = .ok (.return_, 1) := by decide +kernel
theorem kd_A_assess_0 : decode kc_A_assess 0 = .ok (.aload_n 0, 1) := by decide +kernel
theorem kd_A_assess_1 : decode kc_A_assess 1 = .ok (.invokevirtual 86, 3) := by decide +kernel
theorem kd_A_assess_4 : decode kc_A_assess 4 = .ok (.iconst 0, 1) := by decide +kernel
theorem kd_A_assess_5 : decode kc_A_assess 5 = .ok (.istore_n 2, 1) := by decide +kernel
theorem kd_A_assess_6 : decode kc_A_assess 6 = .ok (.iload_n 2, 1) := by decide +kernel
theorem kd_A_assess_7 : decode kc_A_assess 7 = .ok (.aload_n 0, 1) := by decide +kernel
theorem kd_A_assess_8 : decode kc_A_assess 8 = .ok (.getfield 53, 3) := by decide +kernel
theorem kd_A_assess_11 : decode kc_A_assess 11 = .ok (.getfield 57, 3) := by decide +kernel
theorem kd_A_assess_14 : decode kc_A_assess 14 = .ok (.iload_n 1, 1) := by decide +kernel
theorem kd_A_assess_15 : decode kc_A_assess 15 = .ok (.iaload, 1) := by decide +kernel
theorem kd_A_assess_16 : decode kc_A_assess 16 = .ok (.if_icmp .ge 34, 3) := by decide +kernel
theorem kd_A_assess_19 : decode kc_A_assess 19 = .ok (.aload_n 0, 1) := by decide +kernel
theorem kd_A_assess_20 : decode kc_A_assess 20 = .ok (.getfield 13, 3) := by decide +kernel
theorem kd_A_assess_23 : decode kc_A_assess 23 = .ok (.iload_n 2, 1) := by decide +kernel
theorem kd_A_assess_24 : decode kc_A_assess 24 = .ok (.iconst 0, 1) := by decide +kernel
theorem kd_A_assess_25 : decode kc_A_assess 25 = .ok (.iastore, 1) := by decide +kernel
theorem kd_A_assess_26 : decode kc_A_assess 26 = .ok (.aload_n 0, 1) := by decide +kernel
theorem kd_A_assess_27 : decode kc_A_assess 27 = .ok (.iload_n 2, 1) := by decide +kernel
theorem kd_A_assess_28 : decode kc_A_assess 28 = .ok (.aload_n 0, 1) := by decide +kernel
theorem kd_A_assess_29 : decode kc_A_assess 29 = .ok (.getfield 53, 3) := by decide +kernel
theorem kd_A_assess_32 : decode kc_A_assess 32 = .ok (.getfield 89, 3) := by decide +kernel
theorem kd_A_assess_35 : decode kc_A_assess 35 = .ok (.iload_n 1, 1) := by decide +kernel
theorem kd_A_assess_36 : decode kc_A_assess 36 = .ok (.iload_n 2, 1) := by decide +kernel
theorem kd_A_assess_37 : decode kc_A_assess 37 = .ok (.invokestatic 63, 3) := by decide +kernel
theorem kd_A_assess_40 : decode kc_A_assess 40 = .ok (.iaload, 1) := by decide +kernel
theorem kd_A_assess_41 : decode kc_A_assess 41 = .ok (.invokevirtual 92, 3) := by decide +kernel
theorem kd_A_assess_44 : decode kc_A_assess 44 = .ok (.iinc 2 1, 3) := by decide +kernel
theorem kd_A_assess_47 : decode kc_A_assess 47 = .ok (.goto (-41), 3) := by decide +kernel
theorem kd_A_assess_50 : decode kc_A_assess 50 = .ok (.aload_n 0, 1) := by decide +kernel
theorem kd_A_assess_51 : decode kc_A_assess 51 = .ok (.iload_n 1, 1) := by decide +kernel
theorem kd_A_assess_52 : decode kc_A_assess 52 = .ok (.invokevirtual 96, 3) := by decide +kernel
theorem kd_A_assess_55 : decode kc_A_assess 55 = .ok (.return_, 1) := by decide +kernel
theorem kd_A_assessAnew_0 : decode kc_A_assessAnew 0 = .ok (.aload_n 0, 1) := by decide +kernel
theorem kd_A_assessAnew_1 : decode kc_A_assessAnew 1 = .ok (.invokevirtual 86, 3) := by decide +kernel
theorem kd_A_assessAnew_4 : decode kc_A_assessAnew 4 = .ok (.iconst 0, 1) := by decide +kernel
theorem kd_A_assessAnew_5 : decode kc_A_assessAnew 5 = .ok (.istore_n 2, 1) := by decide +kernel
theorem kd_A_assessAnew_6 : decode kc_A_assessAnew 6 = .ok (.iload_n 2, 1) := by decide +kernel
theorem kd_A_assessAnew_7 : decode kc_A_assessAnew 7 = .ok (.aload_n 0, 1) := by decide +kernel
theorem kd_A_assessAnew_8 : decode kc_A_assessAnew 8 = .ok (.getfield 53, 3) := by decide +kernel
theorem kd_A_assessAnew_11 : decode kc_A_assessAnew 11 = .ok (.getfield 57, 3) := by decide +kernel
theorem kd_A_assessAnew_14 : decode kc_A_assessAnew 14 = .ok (.iload_n 1, 1) := by decide +kernel
theorem kd_A_assessAnew_15 : decode kc_A_assessAnew 15 = .ok (.iaload, 1) := by decide +kernel
theorem kd_A_assessAnew_16 : decode kc_A_assessAnew 16 = .ok (.if_icmp .ge 60, 3) := by decide +kernel
theorem kd_A_assessAnew_19 : decode kc_A_assessAnew 19 = .ok (.iload_n 1, 1) := by decide +kernel
theorem kd_A_assessAnew_20 : decode kc_A_assessAnew 20 = .ok (.iload_n 2, 1) := by decide +kernel
theorem kd_A_assessAnew_21 : decode kc_A_assessAnew 21 = .ok (.invokestatic 63, 3) := by decide +kernel
theorem kd_A_assessAnew_24 : decode kc_A_assessAnew 24 = .ok (.istore_n 3, 1) := by decide +kernel
theorem kd_A_assessAnew_25 : decode kc_A_assessAnew 25 = .ok (.aload_n 0, 1) := by decide +kernel
theorem kd_A_assessAnew_26 : decode kc_A_assessAnew 26 = .ok (.getfield 13, 3) := by decide +kernel
theorem kd_A_assessAnew_29 : decode kc_A_assessAnew 29 = .ok (.iload_n 2, 1) := by decide +kernel
theorem kd_A_assessAnew_30 : decode kc_A_assessAnew 30 = .ok (.aload_n 0, 1) := by decide +kernel
theorem kd_A_assessAnew_31 : decode kc_A_assessAnew 31 = .ok (.getfield 53, 3) := by decide +kernel
theorem kd_A_assessAnew_34 : decode kc_A_assessAnew 34 = .ok (.getfield 100, 3) := by decide +kernel
theorem kd_A_assessAnew_37 : decode kc_A_assessAnew 37 = .ok (.iload_n 3, 1) := by decide +kernel
theorem kd_A_assessAnew_38 : decode kc_A_assessAnew 38 = .ok (.iaload, 1) := by decide +kernel
theorem kd_A_assessAnew_39 : decode kc_A_assessAnew 39 = .ok (.iastore, 1) := by decide +kernel
theorem kd_A_assessAnew_40 : decode kc_A_assessAnew 40 = .ok (.aload_n 0, 1) := by decide +kernel
theorem kd_A_assessAnew_41 : decode kc_A_assessAnew 41 = .ok (.iload_n 2, 1) := by decide +kernel
theorem kd_A_assessAnew_42 : decode kc_A_assessAnew 42 = .ok (.aload_n 0, 1) := by decide +kernel
theorem kd_A_assessAnew_43 : decode kc_A_assessAnew 43 = .ok (.getfield 53, 3) := by decide +kernel
theorem kd_A_assessAnew_46 : decode kc_A_assessAnew 46 = .ok (.getfield 101, 3) := by decide +kernel
theorem kd_A_assessAnew_49 : decode kc_A_assessAnew 49 = .ok (.iload_n 3, 1) := by decide +kernel
theorem kd_A_assessAnew_50 : decode kc_A_assessAnew 50 = .ok (.iaload, 1) := by decide +kernel
theorem kd_A_assessAnew_51 : decode kc_A_assessAnew 51 = .ok (.aload_n 0, 1) := by decide +kernel
theorem kd_A_assessAnew_52 : decode kc_A_assessAnew 52 = .ok (.getfield 13, 3) := by decide +kernel
theorem kd_A_assessAnew_55 : decode kc_A_assessAnew 55 = .ok (.iload_n 2, 1) := by decide +kernel
theorem kd_A_assessAnew_56 : decode kc_A_assessAnew 56 = .ok (.iaload, 1) := by decide +kernel
theorem kd_A_assessAnew_57 : decode kc_A_assessAnew 57 = .ok (.aload_n 0, 1) := by decide +kernel
