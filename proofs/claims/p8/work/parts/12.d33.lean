theorem kd_M_isLate_0 : decode kc_M_isLate 0 = .ok (.aload_n 0, 1) := by decide +kernel
theorem kd_M_isLate_1 : decode kc_M_isLate 1 = .ok (.getfield 116, 3) := by decide +kernel
theorem kd_M_isLate_4 : decode kc_M_isLate 4 = .ok (.ifCond .ge 5, 3) := by decide +kernel
theorem kd_M_isLate_7 : decode kc_M_isLate 7 = .ok (.iconst 0, 1) := by decide +kernel
theorem kd_M_isLate_8 : decode kc_M_isLate 8 = .ok (.ireturn, 1) := by decide +kernel
theorem kd_M_isLate_9 : decode kc_M_isLate 9 = .ok (.aload_n 0, 1) := by decide +kernel
theorem kd_M_isLate_10 : decode kc_M_isLate 10 = .ok (.getfield 101, 3) := by decide +kernel
theorem kd_M_isLate_13 : decode kc_M_isLate 13 = .ok (.aload_n 0, 1) := by decide +kernel
theorem kd_M_isLate_14 : decode kc_M_isLate 14 = .ok (.getfield 116, 3) := by decide +kernel
theorem kd_M_isLate_17 : decode kc_M_isLate 17 = .ok (.iaload, 1) := by decide +kernel
theorem kd_M_isLate_18 : decode kc_M_isLate 18 = .ok (.aload_n 0, 1) := by decide +kernel
theorem kd_M_isLate_19 : decode kc_M_isLate 19 = .ok (.getfield 101, 3) := by decide +kernel
theorem kd_M_isLate_22 : decode kc_M_isLate 22 = .ok (.iload_n 1, 1) := by decide +kernel
theorem kd_M_isLate_23 : decode kc_M_isLate 23 = .ok (.iaload, 1) := by decide +kernel
theorem kd_M_isLate_24 : decode kc_M_isLate 24 = .ok (.if_icmp .eq 29, 3) := by decide +kernel
theorem kd_M_isLate_27 : decode kc_M_isLate 27 = .ok (.aload_n 0, 1) := by decide +kernel
theorem kd_M_isLate_28 : decode kc_M_isLate 28 = .ok (.getfield 101, 3) := by decide +kernel
theorem kd_M_isLate_31 : decode kc_M_isLate 31 = .ok (.aload_n 0, 1) := by decide +kernel
theorem kd_M_isLate_32 : decode kc_M_isLate 32 = .ok (.getfield 116, 3) := by decide +kernel
theorem kd_M_isLate_35 : decode kc_M_isLate 35 = .ok (.iaload, 1) := by decide +kernel
theorem kd_M_isLate_36 : decode kc_M_isLate 36 = .ok (.aload_n 0, 1) := by decide +kernel
theorem kd_M_isLate_37 : decode kc_M_isLate 37 = .ok (.getfield 101, 3) := by decide +kernel
theorem kd_M_isLate_40 : decode kc_M_isLate 40 = .ok (.iload_n 1, 1) := by decide +kernel
theorem kd_M_isLate_41 : decode kc_M_isLate 41 = .ok (.iaload, 1) := by decide +kernel
theorem kd_M_isLate_42 : decode kc_M_isLate 42 = .ok (.if_icmp .le 7, 3) := by decide +kernel
theorem kd_M_isLate_45 : decode kc_M_isLate 45 = .ok (.iconst 1, 1) := by decide +kernel
theorem kd_M_isLate_46 : decode kc_M_isLate 46 = .ok (.goto 64, 3) := by decide +kernel
theorem kd_M_isLate_49 : decode kc_M_isLate 49 = .ok (.iconst 0, 1) := by decide +kernel
theorem kd_M_isLate_50 : decode kc_M_isLate 50 = .ok (.goto 60, 3) := by decide +kernel
theorem kd_M_isLate_53 : decode kc_M_isLate 53 = .ok (.aload_n 0, 1) := by decide +kernel
theorem kd_M_isLate_54 : decode kc_M_isLate 54 = .ok (.getfield 104, 3) := by decide +kernel
theorem kd_M_isLate_57 : decode kc_M_isLate 57 = .ok (.aload_n 0, 1) := by decide +kernel
theorem kd_M_isLate_58 : decode kc_M_isLate 58 = .ok (.getfield 116, 3) := by decide +kernel
theorem kd_M_isLate_61 : decode kc_M_isLate 61 = .ok (.iaload, 1) := by decide +kernel
theorem kd_M_isLate_62 : decode kc_M_isLate 62 = .ok (.aload_n 0, 1) := by decide +kernel
theorem kd_M_isLate_63 : decode kc_M_isLate 63 = .ok (.getfield 104, 3) := by decide +kernel
theorem kd_M_isLate_66 : decode kc_M_isLate 66 = .ok (.iload_n 1, 1) := by decide +kernel
theorem kd_M_isLate_67 : decode kc_M_isLate 67 = .ok (.iaload, 1) := by decide +kernel
theorem kd_M_isLate_68 : decode kc_M_isLate 68 = .ok (.if_icmp .eq 29, 3) := by decide +kernel
theorem kd_M_isLate_71 : decode kc_M_isLate 71 = .ok (.aload_n 0, 1) := by decide +kernel
theorem kd_M_isLate_72 : decode kc_M_isLate 72 = .ok (.getfield 104, 3) := by decide +kernel
theorem kd_M_isLate_75 : decode kc_M_isLate 75 = .ok (.aload_n 0, 1) := by decide +kernel
theorem kd_M_isLate_76 : decode kc_M_isLate 76 = .ok (.getfield 116, 3) := by decide +kernel
theorem kd_M_isLate_79 : decode kc_M_isLate 79 = .ok (.iaload, 1) := by decide +kernel
theorem kd_M_isLate_80 : decode kc_M_isLate 80 = .ok (.aload_n 0, 1) := by decide +kernel
theorem kd_M_isLate_81 : decode kc_M_isLate 81 = .ok (.getfield 104, 3) := by decide +kernel
theorem kd_M_isLate_84 : decode kc_M_isLate 84 = .ok (.iload_n 1, 1) := by decide +kernel
theorem kd_M_isLate_85 : decode kc_M_isLate 85 = .ok (.iaload, 1) := by decide +kernel
theorem kd_M_isLate_86 : decode kc_M_isLate 86 = .ok (.if_icmp .le 7, 3) := by decide +kernel
theorem kd_M_isLate_89 : decode kc_M_isLate 89 = .ok (.iconst 1, 1) := by decide +kernel
theorem kd_M_isLate_90 : decode kc_M_isLate 90 = .ok (.goto 20, 3) := by decide +kernel
theorem kd_M_isLate_93 : decode kc_M_isLate 93 = .ok (.iconst 0, 1) := by decide +kernel
theorem kd_M_isLate_94 : decode kc_M_isLate 94 = .ok (.goto 16, 3) := by decide +kernel
theorem kd_M_isLate_97 : decode kc_M_isLate 97 = .ok (.aload_n 0, 1) := by decide +kernel
theorem kd_M_isLate_98 : decode kc_M_isLate 98 = .ok (.getfield 116, 3) := by decide +kernel
theorem kd_M_isLate_101 : decode kc_M_isLate 101 = .ok (.iload_n 1, 1) := by decide +kernel
theorem kd_M_isLate_102 : decode kc_M_isLate 102 = .ok (.if_icmp .le 7, 3) := by decide +kernel
theorem kd_M_isLate_105 : decode kc_M_isLate 105 = .ok (.iconst 1, 1) := by decide +kernel
theorem kd_M_isLate_106 : decode kc_M_isLate 106 = .ok (.goto 4, 3) := by decide +kernel
theorem kd_M_isLate_109 : decode kc_M_isLate 109 = .ok (.iconst 0, 1) := by decide +kernel
theorem kd_M_isLate_110 : decode kc_M_isLate 110 = .ok (.ireturn, 1) := by decide +kernel
theorem kd_M_addLot_0 : decode kc_M_addLot 0 = .ok (.aload_n 0, 1) := by decide +kernel
theorem kd_M_addLot_1 : decode kc_M_addLot 1 = .ok (.getfield 163, 3) := by decide +kernel
theorem kd_M_addLot_4 : decode kc_M_addLot 4 = .ok (.aload_n 0, 1) := by decide +kernel
theorem kd_M_addLot_5 : decode kc_M_addLot 5 = .ok (.getfield 299, 3) := by decide +kernel
theorem kd_M_addLot_8 : decode kc_M_addLot 8 = .ok (.iload_n 1, 1) := by decide +kernel
theorem kd_M_addLot_9 : decode kc_M_addLot 9 = .ok (.iastore, 1) := by decide +kernel
theorem kd_M_addLot_10 : decode kc_M_addLot 10 = .ok (.aload_n 0, 1) := by decide +kernel
theorem kd_M_addLot_11 : decode kc_M_addLot 11 = .ok (.getfield 166, 3) := by decide +kernel
theorem kd_M_addLot_14 : decode kc_M_addLot 14 = .ok (.aload_n 0, 1) := by decide +kernel
theorem kd_M_addLot_15 : decode kc_M_addLot 15 = .ok (.getfield 299, 3) := by decide +kernel
theorem kd_M_addLot_18 : decode kc_M_addLot 18 = .ok (.iload_n 2, 1) := by decide +kernel
theorem kd_M_addLot_19 : decode kc_M_addLot 19 = .ok (.iastore, 1) := by decide +kernel
theorem kd_M_addLot_20 : decode kc_M_addLot 20 = .ok (.aload_n 0, 1) := by decide +kernel
theorem kd_M_addLot_21 : decode kc_M_addLot 21 = .ok (.getfield 172, 3) := by decide +kernel
theorem kd_M_addLot_24 : decode kc_M_addLot 24 = .ok (.aload_n 0, 1) := by decide +kernel
theorem kd_M_addLot_25 : decode kc_M_addLot 25 = .ok (.getfield 299, 3) := by decide +kernel
theorem kd_M_addLot_28 : decode kc_M_addLot 28 = .ok (.lload_n 3, 1) := by decide +kernel
theorem kd_M_addLot_29 : decode kc_M_addLot 29 = .ok (.lastore, 1) := by decide +kernel
theorem kd_M_addLot_30 : decode kc_M_addLot 30 = .ok (.aload_n 0, 1) := by decide +kernel
theorem kd_M_addLot_31 : decode kc_M_addLot 31 = .ok (.getfield 175, 3) := by decide +kernel
theorem kd_M_addLot_34 : decode kc_M_addLot 34 = .ok (.aload_n 0, 1) := by decide +kernel
theorem kd_M_addLot_35 : decode kc_M_addLot 35 = .ok (.getfield 299, 3) := by decide +kernel
theorem kd_M_addLot_38 : decode kc_M_addLot 38 = .ok (.iload 5, 2) := by decide +kernel
theorem kd_M_addLot_40 : decode kc_M_addLot 40 = .ok (.bastore, 1) := by decide +kernel
theorem kd_M_addLot_41 : decode kc_M_addLot 41 = .ok (.aload_n 0, 1) := by decide +kernel
theorem kd_M_addLot_42 : decode kc_M_addLot 42 = .ok (.getfield 178, 3) := by decide +kernel
theorem kd_M_addLot_45 : decode kc_M_addLot 45 = .ok (.aload_n 0, 1) := by decide +kernel
theorem kd_M_addLot_46 : decode kc_M_addLot 46 = .ok (.getfield 299, 3) := by decide +kernel
theorem kd_M_addLot_49 : decode kc_M_addLot 49 = .ok (.iload 6, 2) := by decide +kernel
theorem kd_M_addLot_51 : decode kc_M_addLot 51 = .ok (.bastore, 1) := by decide +kernel
theorem kd_M_addLot_52 : decode kc_M_addLot 52 = .ok (.aload_n 0, 1) := by decide +kernel
theorem kd_M_addLot_53 : decode kc_M_addLot 53 = .ok (.dup, 1) := by decide +kernel
theorem kd_M_addLot_54 : decode kc_M_addLot 54 = .ok (.getfield 299, 3) := by decide +kernel
theorem kd_M_addLot_57 : decode kc_M_addLot 57 = .ok (.iconst 1, 1) := by decide +kernel
theorem kd_M_addLot_58 : decode kc_M_addLot 58 = .ok (.iadd, 1) := by decide +kernel
theorem kd_M_addLot_59 : decode kc_M_addLot 59 = .ok (.putfield 299, 3) := by decide +kernel
theorem kd_M_addLot_62 : decode kc_M_addLot 62 = .ok (.aload_n 0, 1) := by decide +kernel
theorem kd_M_addLot_63 : decode kc_M_addLot 63 = .ok (.getfield 299, 3) := by decide +kernel
theorem kd_M_addLot_66 : decode kc_M_addLot 66 = .ok (.iconst 1, 1) := by decide +kernel
theorem kd_M_addLot_67 : decode kc_M_addLot 67 = .ok (.isub, 1) := by decide +kernel
theorem kd_M_addLot_68 : decode kc_M_addLot 68 = .ok (.ireturn, 1) := by decide +kernel
