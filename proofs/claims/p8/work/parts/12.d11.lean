theorem kd_L_add_22 : decode kc_L_add 22 = .ok (.aload_n 0, 1) := by decide +kernel
theorem kd_L_add_23 : decode kc_L_add 23 = .ok (.getfield 19, 3) := by decide +kernel
theorem kd_L_add_26 : decode kc_L_add 26 = .ok (.iload 7, 2) := by decide +kernel
theorem kd_L_add_28 : decode kc_L_add 28 = .ok (.lload_n 3, 1) := by decide +kernel
theorem kd_L_add_29 : decode kc_L_add 29 = .ok (.lastore, 1) := by decide +kernel
theorem kd_L_add_30 : decode kc_L_add 30 = .ok (.aload_n 0, 1) := by decide +kernel
theorem kd_L_add_31 : decode kc_L_add 31 = .ok (.getfield 23, 3) := by decide +kernel
theorem kd_L_add_34 : decode kc_L_add 34 = .ok (.iload 7, 2) := by decide +kernel
theorem kd_L_add_36 : decode kc_L_add 36 = .ok (.iload 5, 2) := by decide +kernel
theorem kd_L_add_38 : decode kc_L_add 38 = .ok (.bastore, 1) := by decide +kernel
theorem kd_L_add_39 : decode kc_L_add 39 = .ok (.aload_n 0, 1) := by decide +kernel
theorem kd_L_add_40 : decode kc_L_add 40 = .ok (.getfield 27, 3) := by decide +kernel
theorem kd_L_add_43 : decode kc_L_add 43 = .ok (.iload 7, 2) := by decide +kernel
theorem kd_L_add_45 : decode kc_L_add 45 = .ok (.iload 6, 2) := by decide +kernel
theorem kd_L_add_47 : decode kc_L_add 47 = .ok (.bastore, 1) := by decide +kernel
theorem kd_L_add_48 : decode kc_L_add 48 = .ok (.aload_n 0, 1) := by decide +kernel
theorem kd_L_add_49 : decode kc_L_add 49 = .ok (.dup, 1) := by decide +kernel
theorem kd_L_add_50 : decode kc_L_add 50 = .ok (.getfield 30, 3) := by decide +kernel
theorem kd_L_add_53 : decode kc_L_add 53 = .ok (.iconst 1, 1) := by decide +kernel
theorem kd_L_add_54 : decode kc_L_add 54 = .ok (.iadd, 1) := by decide +kernel
theorem kd_L_add_55 : decode kc_L_add 55 = .ok (.putfield 30, 3) := by decide +kernel
theorem kd_L_add_58 : decode kc_L_add 58 = .ok (.iload 7, 2) := by decide +kernel
theorem kd_L_add_60 : decode kc_L_add 60 = .ok (.ireturn, 1) := by decide +kernel
theorem kd_L_unitsLeft_0 : decode kc_L_unitsLeft 0 = .ok (.iconst 0, 1) := by decide +kernel
theorem kd_L_unitsLeft_1 : decode kc_L_unitsLeft 1 = .ok (.istore_n 3, 1) := by decide +kernel
theorem kd_L_unitsLeft_2 : decode kc_L_unitsLeft 2 = .ok (.iconst 0, 1) := by decide +kernel
theorem kd_L_unitsLeft_3 : decode kc_L_unitsLeft 3 = .ok (.istore 4, 2) := by decide +kernel
theorem kd_L_unitsLeft_5 : decode kc_L_unitsLeft 5 = .ok (.iload 4, 2) := by decide +kernel
theorem kd_L_unitsLeft_7 : decode kc_L_unitsLeft 7 = .ok (.aload_n 0, 1) := by decide +kernel
theorem kd_L_unitsLeft_8 : decode kc_L_unitsLeft 8 = .ok (.getfield 30, 3) := by decide +kernel
theorem kd_L_unitsLeft_11 : decode kc_L_unitsLeft 11 = .ok (.if_icmp .ge 49, 3) := by decide +kernel
theorem kd_L_unitsLeft_14 : decode kc_L_unitsLeft 14 = .ok (.aload_n 0, 1) := by decide +kernel
theorem kd_L_unitsLeft_15 : decode kc_L_unitsLeft 15 = .ok (.getfield 9, 3) := by decide +kernel
theorem kd_L_unitsLeft_18 : decode kc_L_unitsLeft 18 = .ok (.iload 4, 2) := by decide +kernel
theorem kd_L_unitsLeft_20 : decode kc_L_unitsLeft 20 = .ok (.iaload, 1) := by decide +kernel
theorem kd_L_unitsLeft_21 : decode kc_L_unitsLeft 21 = .ok (.iload_n 1, 1) := by decide +kernel
theorem kd_L_unitsLeft_22 : decode kc_L_unitsLeft 22 = .ok (.if_icmp .ne 32, 3) := by decide +kernel
theorem kd_L_unitsLeft_25 : decode kc_L_unitsLeft 25 = .ok (.aload_n 0, 1) := by decide +kernel
theorem kd_L_unitsLeft_26 : decode kc_L_unitsLeft 26 = .ok (.getfield 23, 3) := by decide +kernel
theorem kd_L_unitsLeft_29 : decode kc_L_unitsLeft 29 = .ok (.iload 4, 2) := by decide +kernel
theorem kd_L_unitsLeft_31 : decode kc_L_unitsLeft 31 = .ok (.baload, 1) := by decide +kernel
theorem kd_L_unitsLeft_32 : decode kc_L_unitsLeft 32 = .ok (.iload_n 2, 1) := by decide +kernel
theorem kd_L_unitsLeft_33 : decode kc_L_unitsLeft 33 = .ok (.if_icmp .ne 21, 3) := by decide +kernel
theorem kd_L_unitsLeft_36 : decode kc_L_unitsLeft 36 = .ok (.iload_n 3, 1) := by decide +kernel
theorem kd_L_unitsLeft_37 : decode kc_L_unitsLeft 37 = .ok (.aload_n 0, 1) := by decide +kernel
theorem kd_L_unitsLeft_38 : decode kc_L_unitsLeft 38 = .ok (.getfield 13, 3) := by decide +kernel
theorem kd_L_unitsLeft_41 : decode kc_L_unitsLeft 41 = .ok (.iload 4, 2) := by decide +kernel
theorem kd_L_unitsLeft_43 : decode kc_L_unitsLeft 43 = .ok (.iaload, 1) := by decide +kernel
theorem kd_L_unitsLeft_44 : decode kc_L_unitsLeft 44 = .ok (.aload_n 0, 1) := by decide +kernel
theorem kd_L_unitsLeft_45 : decode kc_L_unitsLeft 45 = .ok (.getfield 16, 3) := by decide +kernel
theorem kd_L_unitsLeft_48 : decode kc_L_unitsLeft 48 = .ok (.iload 4, 2) := by decide +kernel
theorem kd_L_unitsLeft_50 : decode kc_L_unitsLeft 50 = .ok (.iaload, 1) := by decide +kernel
theorem kd_L_unitsLeft_51 : decode kc_L_unitsLeft 51 = .ok (.isub, 1) := by decide +kernel
theorem kd_L_unitsLeft_52 : decode kc_L_unitsLeft 52 = .ok (.iadd, 1) := by decide +kernel
theorem kd_L_unitsLeft_53 : decode kc_L_unitsLeft 53 = .ok (.istore_n 3, 1) := by decide +kernel
theorem kd_L_unitsLeft_54 : decode kc_L_unitsLeft 54 = .ok (.iinc 4 1, 3) := by decide +kernel
theorem kd_L_unitsLeft_57 : decode kc_L_unitsLeft 57 = .ok (.goto (-52), 3) := by decide +kernel
theorem kd_L_unitsLeft_60 : decode kc_L_unitsLeft 60 = .ok (.iload_n 3, 1) := by decide +kernel
theorem kd_L_unitsLeft_61 : decode kc_L_unitsLeft 61 = .ok (.ireturn, 1) := by decide +kernel
theorem kd_L_heldUnitsThatCame_0 : decode kc_L_heldUnitsThatCame 0 = .ok (.iconst 0, 1) := by decide +kernel
theorem kd_L_heldUnitsThatCame_1 : decode kc_L_heldUnitsThatCame 1 = .ok (.istore_n 3, 1) := by decide +kernel
theorem kd_L_heldUnitsThatCame_2 : decode kc_L_heldUnitsThatCame 2 = .ok (.iconst 0, 1) := by decide +kernel
theorem kd_L_heldUnitsThatCame_3 : decode kc_L_heldUnitsThatCame 3 = .ok (.istore 4, 2) := by decide +kernel
theorem kd_L_heldUnitsThatCame_5 : decode kc_L_heldUnitsThatCame 5 = .ok (.iload 4, 2) := by decide +kernel
theorem kd_L_heldUnitsThatCame_7 : decode kc_L_heldUnitsThatCame 7 = .ok (.aload_n 0, 1) := by decide +kernel
theorem kd_L_heldUnitsThatCame_8 : decode kc_L_heldUnitsThatCame 8 = .ok (.getfield 30, 3) := by decide +kernel
theorem kd_L_heldUnitsThatCame_11 : decode kc_L_heldUnitsThatCame 11 = .ok (.if_icmp .ge 51, 3) := by decide +kernel
theorem kd_L_heldUnitsThatCame_14 : decode kc_L_heldUnitsThatCame 14 = .ok (.aload_n 0, 1) := by decide +kernel
theorem kd_L_heldUnitsThatCame_15 : decode kc_L_heldUnitsThatCame 15 = .ok (.getfield 9, 3) := by decide +kernel
theorem kd_L_heldUnitsThatCame_18 : decode kc_L_heldUnitsThatCame 18 = .ok (.iload 4, 2) := by decide +kernel
theorem kd_L_heldUnitsThatCame_20 : decode kc_L_heldUnitsThatCame 20 = .ok (.iaload, 1) := by decide +kernel
theorem kd_L_heldUnitsThatCame_21 : decode kc_L_heldUnitsThatCame 21 = .ok (.iload_n 1, 1) := by decide +kernel
theorem kd_L_heldUnitsThatCame_22 : decode kc_L_heldUnitsThatCame 22 = .ok (.if_icmp .ne 34, 3) := by decide +kernel
theorem kd_L_heldUnitsThatCame_25 : decode kc_L_heldUnitsThatCame 25 = .ok (.aload_n 0, 1) := by decide +kernel
theorem kd_L_heldUnitsThatCame_26 : decode kc_L_heldUnitsThatCame 26 = .ok (.getfield 23, 3) := by decide +kernel
theorem kd_L_heldUnitsThatCame_29 : decode kc_L_heldUnitsThatCame 29 = .ok (.iload 4, 2) := by decide +kernel
theorem kd_L_heldUnitsThatCame_31 : decode kc_L_heldUnitsThatCame 31 = .ok (.baload, 1) := by decide +kernel
theorem kd_L_heldUnitsThatCame_32 : decode kc_L_heldUnitsThatCame 32 = .ok (.ifCond .eq 24, 3) := by decide +kernel
theorem kd_L_heldUnitsThatCame_35 : decode kc_L_heldUnitsThatCame 35 = .ok (.aload_n 0, 1) := by decide +kernel
theorem kd_L_heldUnitsThatCame_36 : decode kc_L_heldUnitsThatCame 36 = .ok (.getfield 27, 3) := by decide +kernel
theorem kd_L_heldUnitsThatCame_39 : decode kc_L_heldUnitsThatCame 39 = .ok (.iload 4, 2) := by decide +kernel
theorem kd_L_heldUnitsThatCame_41 : decode kc_L_heldUnitsThatCame 41 = .ok (.baload, 1) := by decide +kernel
theorem kd_L_heldUnitsThatCame_42 : decode kc_L_heldUnitsThatCame 42 = .ok (.iload_n 2, 1) := by decide +kernel
theorem kd_L_heldUnitsThatCame_43 : decode kc_L_heldUnitsThatCame 43 = .ok (.if_icmp .ne 13, 3) := by decide +kernel
theorem kd_L_heldUnitsThatCame_46 : decode kc_L_heldUnitsThatCame 46 = .ok (.iload_n 3, 1) := by decide +kernel
theorem kd_L_heldUnitsThatCame_47 : decode kc_L_heldUnitsThatCame 47 = .ok (.aload_n 0, 1) := by decide +kernel
theorem kd_L_heldUnitsThatCame_48 : decode kc_L_heldUnitsThatCame 48 = .ok (.getfield 13, 3) := by decide +kernel
theorem kd_L_heldUnitsThatCame_51 : decode kc_L_heldUnitsThatCame 51 = .ok (.iload 4, 2) := by decide +kernel
theorem kd_L_heldUnitsThatCame_53 : decode kc_L_heldUnitsThatCame 53 = .ok (.iaload, 1) := by decide +kernel
theorem kd_L_heldUnitsThatCame_54 : decode kc_L_heldUnitsThatCame 54 = .ok (.iadd, 1) := by decide +kernel
theorem kd_L_heldUnitsThatCame_55 : decode kc_L_heldUnitsThatCame 55 = .ok (.istore_n 3, 1) := by decide +kernel
theorem kd_L_heldUnitsThatCame_56 : decode kc_L_heldUnitsThatCame 56 = .ok (.iinc 4 1, 3) := by decide +kernel
theorem kd_L_heldUnitsThatCame_59 : decode kc_L_heldUnitsThatCame 59 = .ok (.goto (-54), 3) := by decide +kernel
theorem kd_L_heldUnitsThatCame_62 : decode kc_L_heldUnitsThatCame 62 = .ok (.iload_n 3, 1) := by decide +kernel
theorem kd_L_heldUnitsThatCame_63 : decode kc_L_heldUnitsThatCame 63 = .ok (.ireturn, 1) := by decide +kernel
theorem kd_L_dutyGone_0 : decode kc_L_dutyGone 0 = .ok (.aload_n 0, 1) := by decide +kernel
theorem kd_L_dutyGone_1 : decode kc_L_dutyGone 1 = .ok (.getfield 13, 3) := by decide +kernel
theorem kd_L_dutyGone_4 : decode kc_L_dutyGone 4 = .ok (.iload_n 1, 1) := by decide +kernel
theorem kd_L_dutyGone_5 : decode kc_L_dutyGone 5 = .ok (.iaload, 1) := by decide +kernel
theorem kd_L_dutyGone_6 : decode kc_L_dutyGone 6 = .ok (.ifCond .gt 7, 3) := by decide +kernel
theorem kd_L_dutyGone_9 : decode kc_L_dutyGone 9 = .ok (.lconst 0, 1) := by decide +kernel
theorem kd_L_dutyGone_10 : decode kc_L_dutyGone 10 = .ok (.goto 25, 3) := by decide +kernel
theorem kd_L_dutyGone_13 : decode kc_L_dutyGone 13 = .ok (.aload_n 0, 1) := by decide +kernel
theorem kd_L_dutyGone_14 : decode kc_L_dutyGone 14 = .ok (.getfield 19, 3) := by decide +kernel
theorem kd_L_dutyGone_17 : decode kc_L_dutyGone 17 = .ok (.iload_n 1, 1) := by decide +kernel
theorem kd_L_dutyGone_18 : decode kc_L_dutyGone 18 = .ok (.laload, 1) := by decide +kernel
theorem kd_L_dutyGone_19 : decode kc_L_dutyGone 19 = .ok (.aload_n 0, 1) := by decide +kernel
theorem kd_L_dutyGone_20 : decode kc_L_dutyGone 20 = .ok (.getfield 16, 3) := by decide +kernel
theorem kd_L_dutyGone_23 : decode kc_L_dutyGone 23 = .ok (.iload_n 1, 1) := by decide +kernel
theorem kd_L_dutyGone_24 : decode kc_L_dutyGone 24 = .ok (.iaload, 1) := by decide +kernel
theorem kd_L_dutyGone_25 : decode kc_L_dutyGone 25 = .ok (.i2l, 1) := by decide +kernel
theorem kd_L_dutyGone_26 : decode kc_L_dutyGone 26 = .ok (.lmul, 1) := by decide +kernel
theorem kd_L_dutyGone_27 : decode kc_L_dutyGone 27 = .ok (.aload_n 0, 1) := by decide +kernel
theorem kd_L_dutyGone_28 : decode kc_L_dutyGone 28 = .ok (.getfield 13, 3) := by decide +kernel
theorem kd_L_dutyGone_31 : decode kc_L_dutyGone 31 = .ok (.iload_n 1, 1) := by decide +kernel
theorem kd_L_dutyGone_32 : decode kc_L_dutyGone 32 = .ok (.iaload, 1) := by decide +kernel
theorem kd_L_dutyGone_33 : decode kc_L_dutyGone 33 = .ok (.i2l, 1) := by decide +kernel
theorem kd_L_dutyGone_34 : decode kc_L_dutyGone 34 = .ok (.ldiv, 1) := by decide +kernel
theorem kd_L_dutyGone_35 : decode kc_L_dutyGone 35 = .ok (.lreturn, 1) := by decide +kernel
theorem kd_L_takeUnits_0 : decode kc_L_takeUnits 0 = .ok (.lconst 0, 1) := by decide +kernel
theorem kd_L_takeUnits_1 : decode kc_L_takeUnits 1 = .ok (.lstore 4, 2) := by decide +kernel
theorem kd_L_takeUnits_3 : decode kc_L_takeUnits 3 = .ok (.iload_n 2, 1) := by decide +kernel
theorem kd_L_takeUnits_4 : decode kc_L_takeUnits 4 = .ok (.istore 6, 2) := by decide +kernel
theorem kd_L_takeUnits_6 : decode kc_L_takeUnits 6 = .ok (.iconst 0, 1) := by decide +kernel
theorem kd_L_takeUnits_7 : decode kc_L_takeUnits 7 = .ok (.istore 7, 2) := by decide +kernel
theorem kd_L_takeUnits_9 : decode kc_L_takeUnits 9 = .ok (.iload 7, 2) := by decide +kernel
theorem kd_L_takeUnits_11 : decode kc_L_takeUnits 11 = .ok (.aload_n 0, 1) := by decide +kernel
theorem kd_L_takeUnits_12 : decode kc_L_takeUnits 12 = .ok (.getfield 30, 3) := by decide +kernel
theorem kd_L_takeUnits_15 : decode kc_L_takeUnits 15 = .ok (.if_icmp .ge 99, 3) := by decide +kernel
theorem kd_L_takeUnits_18 : decode kc_L_takeUnits 18 = .ok (.iload 6, 2) := by decide +kernel
theorem kd_L_takeUnits_20 : decode kc_L_takeUnits 20 = .ok (.ifCond .le 94, 3) := by decide +kernel
theorem kd_L_takeUnits_23 : decode kc_L_takeUnits 23 = .ok (.aload_n 0, 1) := by decide +kernel
theorem kd_L_takeUnits_24 : decode kc_L_takeUnits 24 = .ok (.getfield 9, 3) := by decide +kernel
theorem kd_L_takeUnits_27 : decode kc_L_takeUnits 27 = .ok (.iload 7, 2) := by decide +kernel
theorem kd_L_takeUnits_29 : decode kc_L_takeUnits 29 = .ok (.iaload, 1) := by decide +kernel
theorem kd_L_takeUnits_30 : decode kc_L_takeUnits 30 = .ok (.iload_n 1, 1) := by decide +kernel
theorem kd_L_takeUnits_31 : decode kc_L_takeUnits 31 = .ok (.if_icmp .ne 77, 3) := by decide +kernel
theorem kd_L_takeUnits_34 : decode kc_L_takeUnits 34 = .ok (.aload_n 0, 1) := by decide +kernel
theorem kd_L_takeUnits_35 : decode kc_L_takeUnits 35 = .ok (.getfield 23, 3) := by decide +kernel
theorem kd_L_takeUnits_38 : decode kc_L_takeUnits 38 = .ok (.iload 7, 2) := by decide +kernel
theorem kd_L_takeUnits_40 : decode kc_L_takeUnits 40 = .ok (.baload, 1) := by decide +kernel
theorem kd_L_takeUnits_41 : decode kc_L_takeUnits 41 = .ok (.iload_n 3, 1) := by decide +kernel
theorem kd_L_takeUnits_42 : decode kc_L_takeUnits 42 = .ok (.if_icmp .ne 66, 3) := by decide +kernel
theorem kd_L_takeUnits_45 : decode kc_L_takeUnits 45 = .ok (.iload 6, 2) := by decide +kernel
theorem kd_L_takeUnits_47 : decode kc_L_takeUnits 47 = .ok (.aload_n 0, 1) := by decide +kernel
theorem kd_L_takeUnits_48 : decode kc_L_takeUnits 48 = .ok (.getfield 13, 3) := by decide +kernel
theorem kd_L_takeUnits_51 : decode kc_L_takeUnits 51 = .ok (.iload 7, 2) := by decide +kernel
theorem kd_L_takeUnits_53 : decode kc_L_takeUnits 53 = .ok (.iaload, 1) := by decide +kernel
theorem kd_L_takeUnits_54 : decode kc_L_takeUnits 54 = .ok (.aload_n 0, 1) := by decide +kernel
theorem kd_L_takeUnits_55 : decode kc_L_takeUnits 55 = .ok (.getfield 16, 3) := by decide +kernel
theorem kd_L_takeUnits_58 : decode kc_L_takeUnits 58 = .ok (.iload 7, 2) := by decide +kernel
theorem kd_L_takeUnits_60 : decode kc_L_takeUnits 60 = .ok (.iaload, 1) := by decide +kernel
theorem kd_L_takeUnits_61 : decode kc_L_takeUnits 61 = .ok (.isub, 1) := by decide +kernel
theorem kd_L_takeUnits_62 : decode kc_L_takeUnits 62 = .ok (.invokestatic 34, 3) := by decide +kernel
theorem kd_L_takeUnits_65 : decode kc_L_takeUnits 65 = .ok (.istore 8, 2) := by decide +kernel
theorem kd_L_takeUnits_67 : decode kc_L_takeUnits 67 = .ok (.aload_n 0, 1) := by decide +kernel
theorem kd_L_takeUnits_68 : decode kc_L_takeUnits 68 = .ok (.iload 7, 2) := by decide +kernel
theorem kd_L_takeUnits_70 : decode kc_L_takeUnits 70 = .ok (.invokevirtual 40, 3) := by decide +kernel
theorem kd_L_takeUnits_73 : decode kc_L_takeUnits 73 = .ok (.lstore 9, 2) := by decide +kernel
theorem kd_L_takeUnits_75 : decode kc_L_takeUnits 75 = .ok (.aload_n 0, 1) := by decide +kernel
theorem kd_L_takeUnits_76 : decode kc_L_takeUnits 76 = .ok (.getfield 16, 3) := by decide +kernel
theorem kd_L_takeUnits_79 : decode kc_L_takeUnits 79 = .ok (.iload 7, 2) := by decide +kernel
theorem kd_L_takeUnits_81 : decode kc_L_takeUnits 81 = .ok (.dup2, 1) := by decide +kernel
theorem kd_L_takeUnits_82 : decode kc_L_takeUnits 82 = .ok (.iaload, 1) := by decide +kernel
theorem kd_L_takeUnits_83 : decode kc_L_takeUnits 83 = .ok (.iload 8, 2) := by decide +kernel
theorem kd_L_takeUnits_85 : decode kc_L_takeUnits 85 = .ok (.iadd, 1) := by decide +kernel
theorem kd_L_takeUnits_86 : decode kc_L_takeUnits 86 = .ok (.iastore, 1) := by decide +kernel
theorem kd_L_takeUnits_87 : decode kc_L_takeUnits 87 = .ok (.iload 6, 2) := by decide +kernel
theorem kd_L_takeUnits_89 : decode kc_L_takeUnits 89 = .ok (.iload 8, 2) := by decide +kernel
theorem kd_L_takeUnits_91 : decode kc_L_takeUnits 91 = .ok (.isub, 1) := by decide +kernel
theorem kd_L_takeUnits_92 : decode kc_L_takeUnits 92 = .ok (.istore 6, 2) := by decide +kernel
theorem kd_L_takeUnits_94 : decode kc_L_takeUnits 94 = .ok (.lload 4, 2) := by decide +kernel
theorem kd_L_takeUnits_96 : decode kc_L_takeUnits 96 = .ok (.aload_n 0, 1) := by decide +kernel
theorem kd_L_takeUnits_97 : decode kc_L_takeUnits 97 = .ok (.iload 7, 2) := by decide +kernel
theorem kd_L_takeUnits_99 : decode kc_L_takeUnits 99 = .ok (.invokevirtual 40, 3) := by decide +kernel
theorem kd_L_takeUnits_102 : decode kc_L_takeUnits 102 = .ok (.lload 9, 2) := by decide +kernel
theorem kd_L_takeUnits_104 : decode kc_L_takeUnits 104 = .ok (.lsub, 1) := by decide +kernel
theorem kd_L_takeUnits_105 : decode kc_L_takeUnits 105 = .ok (.ladd, 1) := by decide +kernel
theorem kd_L_takeUnits_106 : decode kc_L_takeUnits 106 = .ok (.lstore 4, 2) := by decide +kernel
theorem kd_L_takeUnits_108 : decode kc_L_takeUnits 108 = .ok (.iinc 7 1, 3) := by decide +kernel
theorem kd_L_takeUnits_111 : decode kc_L_takeUnits 111 = .ok (.goto (-102), 3) := by decide +kernel
theorem kd_L_takeUnits_114 : decode kc_L_takeUnits 114 = .ok (.lload 4, 2) := by decide +kernel
theorem kd_L_takeUnits_116 : decode kc_L_takeUnits 116 = .ok (.lreturn, 1) := by decide +kernel
