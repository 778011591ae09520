theorem kd_B_changeLots_2 : decode kc_B_changeLots 2 = .ok (.iload_n 2, 1) := by decide +kernel
theorem kd_B_changeLots_3 : decode kc_B_changeLots 3 = .ok (.aload_n 0, 1) := by decide +kernel
theorem kd_B_changeLots_4 : decode kc_B_changeLots 4 = .ok (.getfield 42, 3) := by decide +kernel
theorem kd_B_changeLots_7 : decode kc_B_changeLots 7 = .ok (.getfield 181, 3) := by decide +kernel
theorem kd_B_changeLots_10 : decode kc_B_changeLots 10 = .ok (.iload_n 1, 1) := by decide +kernel
theorem kd_B_changeLots_11 : decode kc_B_changeLots 11 = .ok (.iaload, 1) := by decide +kernel
theorem kd_B_changeLots_12 : decode kc_B_changeLots 12 = .ok (.if_icmp .ge 111, 3) := by decide +kernel
theorem kd_B_changeLots_15 : decode kc_B_changeLots 15 = .ok (.iload_n 1, 1) := by decide +kernel
theorem kd_B_changeLots_16 : decode kc_B_changeLots 16 = .ok (.iload_n 2, 1) := by decide +kernel
theorem kd_B_changeLots_17 : decode kc_B_changeLots 17 = .ok (.invokestatic 199, 3) := by decide +kernel
theorem kd_B_changeLots_20 : decode kc_B_changeLots 20 = .ok (.istore_n 3, 1) := by decide +kernel
theorem kd_B_changeLots_21 : decode kc_B_changeLots 21 = .ok (.aload_n 0, 1) := by decide +kernel
theorem kd_B_changeLots_22 : decode kc_B_changeLots 22 = .ok (.getfield 42, 3) := by decide +kernel
theorem kd_B_changeLots_25 : decode kc_B_changeLots 25 = .ok (.getfield 294, 3) := by decide +kernel
theorem kd_B_changeLots_28 : decode kc_B_changeLots 28 = .ok (.iload_n 1, 1) := by decide +kernel
theorem kd_B_changeLots_29 : decode kc_B_changeLots 29 = .ok (.iaload, 1) := by decide +kernel
theorem kd_B_changeLots_30 : decode kc_B_changeLots 30 = .ok (.iload_n 2, 1) := by decide +kernel
theorem kd_B_changeLots_31 : decode kc_B_changeLots 31 = .ok (.iadd, 1) := by decide +kernel
theorem kd_B_changeLots_32 : decode kc_B_changeLots 32 = .ok (.istore 4, 2) := by decide +kernel
theorem kd_B_changeLots_34 : decode kc_B_changeLots 34 = .ok (.aload_n 0, 1) := by decide +kernel
theorem kd_B_changeLots_35 : decode kc_B_changeLots 35 = .ok (.getfield 58, 3) := by decide +kernel
theorem kd_B_changeLots_38 : decode kc_B_changeLots 38 = .ok (.getfield 288, 3) := by decide +kernel
theorem kd_B_changeLots_41 : decode kc_B_changeLots 41 = .ok (.iload 4, 2) := by decide +kernel
theorem kd_B_changeLots_43 : decode kc_B_changeLots 43 = .ok (.baload, 1) := by decide +kernel
theorem kd_B_changeLots_44 : decode kc_B_changeLots 44 = .ok (.ifCond .ne 35, 3) := by decide +kernel
theorem kd_B_changeLots_47 : decode kc_B_changeLots 47 = .ok (.aload_n 0, 1) := by decide +kernel
theorem kd_B_changeLots_48 : decode kc_B_changeLots 48 = .ok (.getfield 65, 3) := by decide +kernel
theorem kd_B_changeLots_51 : decode kc_B_changeLots 51 = .ok (.dup, 1) := by decide +kernel
theorem kd_B_changeLots_52 : decode kc_B_changeLots 52 = .ok (.getfield 259, 3) := by decide +kernel
theorem kd_B_changeLots_55 : decode kc_B_changeLots 55 = .ok (.aload_n 0, 1) := by decide +kernel
theorem kd_B_changeLots_56 : decode kc_B_changeLots 56 = .ok (.getfield 42, 3) := by decide +kernel
theorem kd_B_changeLots_59 : decode kc_B_changeLots 59 = .ok (.getfield 205, 3) := by decide +kernel
theorem kd_B_changeLots_62 : decode kc_B_changeLots 62 = .ok (.iload_n 3, 1) := by decide +kernel
theorem kd_B_changeLots_63 : decode kc_B_changeLots 63 = .ok (.laload, 1) := by decide +kernel
theorem kd_B_changeLots_64 : decode kc_B_changeLots 64 = .ok (.aload_n 0, 1) := by decide +kernel
theorem kd_B_changeLots_65 : decode kc_B_changeLots 65 = .ok (.getfield 58, 3) := by decide +kernel
theorem kd_B_changeLots_68 : decode kc_B_changeLots 68 = .ok (.getfield 287, 3) := by decide +kernel
theorem kd_B_changeLots_71 : decode kc_B_changeLots 71 = .ok (.iload 4, 2) := by decide +kernel
theorem kd_B_changeLots_73 : decode kc_B_changeLots 73 = .ok (.laload, 1) := by decide +kernel
theorem kd_B_changeLots_74 : decode kc_B_changeLots 74 = .ok (.lsub, 1) := by decide +kernel
theorem kd_B_changeLots_75 : decode kc_B_changeLots 75 = .ok (.ladd, 1) := by decide +kernel
theorem kd_B_changeLots_76 : decode kc_B_changeLots 76 = .ok (.putfield 259, 3) := by decide +kernel
theorem kd_B_changeLots_79 : decode kc_B_changeLots 79 = .ok (.aload_n 0, 1) := by decide +kernel
theorem kd_B_changeLots_80 : decode kc_B_changeLots 80 = .ok (.getfield 58, 3) := by decide +kernel
theorem kd_B_changeLots_83 : decode kc_B_changeLots 83 = .ok (.getfield 281, 3) := by decide +kernel
theorem kd_B_changeLots_86 : decode kc_B_changeLots 86 = .ok (.iload 4, 2) := by decide +kernel
theorem kd_B_changeLots_88 : decode kc_B_changeLots 88 = .ok (.aload_n 0, 1) := by decide +kernel
theorem kd_B_changeLots_89 : decode kc_B_changeLots 89 = .ok (.getfield 42, 3) := by decide +kernel
theorem kd_B_changeLots_92 : decode kc_B_changeLots 92 = .ok (.getfield 299, 3) := by decide +kernel
theorem kd_B_changeLots_95 : decode kc_B_changeLots 95 = .ok (.iload_n 3, 1) := by decide +kernel
theorem kd_B_changeLots_96 : decode kc_B_changeLots 96 = .ok (.iaload, 1) := by decide +kernel
theorem kd_B_changeLots_97 : decode kc_B_changeLots 97 = .ok (.iastore, 1) := by decide +kernel
theorem kd_B_changeLots_98 : decode kc_B_changeLots 98 = .ok (.aload_n 0, 1) := by decide +kernel
theorem kd_B_changeLots_99 : decode kc_B_changeLots 99 = .ok (.getfield 58, 3) := by decide +kernel
theorem kd_B_changeLots_102 : decode kc_B_changeLots 102 = .ok (.getfield 287, 3) := by decide +kernel
theorem kd_B_changeLots_105 : decode kc_B_changeLots 105 = .ok (.iload 4, 2) := by decide +kernel
theorem kd_B_changeLots_107 : decode kc_B_changeLots 107 = .ok (.aload_n 0, 1) := by decide +kernel
theorem kd_B_changeLots_108 : decode kc_B_changeLots 108 = .ok (.getfield 42, 3) := by decide +kernel
theorem kd_B_changeLots_111 : decode kc_B_changeLots 111 = .ok (.getfield 205, 3) := by decide +kernel
theorem kd_B_changeLots_114 : decode kc_B_changeLots 114 = .ok (.iload_n 3, 1) := by decide +kernel
theorem kd_B_changeLots_115 : decode kc_B_changeLots 115 = .ok (.laload, 1) := by decide +kernel
theorem kd_B_changeLots_116 : decode kc_B_changeLots 116 = .ok (.lastore, 1) := by decide +kernel
theorem kd_B_changeLots_117 : decode kc_B_changeLots 117 = .ok (.iinc 2 1, 3) := by decide +kernel
theorem kd_B_changeLots_120 : decode kc_B_changeLots 120 = .ok (.goto (-118), 3) := by decide +kernel
theorem kd_B_changeLots_123 : decode kc_B_changeLots 123 = .ok (.return_, 1) := by decide +kernel
theorem kd_B_hasGoneUnits_0 : decode kc_B_hasGoneUnits 0 = .ok (.iconst 0, 1) := by decide +kernel
theorem kd_B_hasGoneUnits_1 : decode kc_B_hasGoneUnits 1 = .ok (.istore_n 2, 1) := by decide +kernel
theorem kd_B_hasGoneUnits_2 : decode kc_B_hasGoneUnits 2 = .ok (.iload_n 2, 1) := by decide +kernel
theorem kd_B_hasGoneUnits_3 : decode kc_B_hasGoneUnits 3 = .ok (.aload_n 0, 1) := by decide +kernel
theorem kd_B_hasGoneUnits_4 : decode kc_B_hasGoneUnits 4 = .ok (.getfield 42, 3) := by decide +kernel
theorem kd_B_hasGoneUnits_7 : decode kc_B_hasGoneUnits 7 = .ok (.getfield 181, 3) := by decide +kernel
theorem kd_B_hasGoneUnits_10 : decode kc_B_hasGoneUnits 10 = .ok (.iload_n 1, 1) := by decide +kernel
theorem kd_B_hasGoneUnits_11 : decode kc_B_hasGoneUnits 11 = .ok (.iaload, 1) := by decide +kernel
theorem kd_B_hasGoneUnits_12 : decode kc_B_hasGoneUnits 12 = .ok (.if_icmp .ge 33, 3) := by decide +kernel
theorem kd_B_hasGoneUnits_15 : decode kc_B_hasGoneUnits 15 = .ok (.aload_n 0, 1) := by decide +kernel
theorem kd_B_hasGoneUnits_16 : decode kc_B_hasGoneUnits 16 = .ok (.getfield 58, 3) := by decide +kernel
theorem kd_B_hasGoneUnits_19 : decode kc_B_hasGoneUnits 19 = .ok (.getfield 284, 3) := by decide +kernel
theorem kd_B_hasGoneUnits_22 : decode kc_B_hasGoneUnits 22 = .ok (.aload_n 0, 1) := by decide +kernel
theorem kd_B_hasGoneUnits_23 : decode kc_B_hasGoneUnits 23 = .ok (.getfield 42, 3) := by decide +kernel
theorem kd_B_hasGoneUnits_26 : decode kc_B_hasGoneUnits 26 = .ok (.getfield 294, 3) := by decide +kernel
theorem kd_B_hasGoneUnits_29 : decode kc_B_hasGoneUnits 29 = .ok (.iload_n 1, 1) := by decide +kernel
theorem kd_B_hasGoneUnits_30 : decode kc_B_hasGoneUnits 30 = .ok (.iaload, 1) := by decide +kernel
theorem kd_B_hasGoneUnits_31 : decode kc_B_hasGoneUnits 31 = .ok (.iload_n 2, 1) := by decide +kernel
theorem kd_B_hasGoneUnits_32 : decode kc_B_hasGoneUnits 32 = .ok (.iadd, 1) := by decide +kernel
theorem kd_B_hasGoneUnits_33 : decode kc_B_hasGoneUnits 33 = .ok (.iaload, 1) := by decide +kernel
theorem kd_B_hasGoneUnits_34 : decode kc_B_hasGoneUnits 34 = .ok (.ifCond .le 5, 3) := by decide +kernel
theorem kd_B_hasGoneUnits_37 : decode kc_B_hasGoneUnits 37 = .ok (.iconst 1, 1) := by decide +kernel
theorem kd_B_hasGoneUnits_38 : decode kc_B_hasGoneUnits 38 = .ok (.ireturn, 1) := by decide +kernel
theorem kd_B_hasGoneUnits_39 : decode kc_B_hasGoneUnits 39 = .ok (.iinc 2 1, 3) := by decide +kernel
theorem kd_B_hasGoneUnits_42 : decode kc_B_hasGoneUnits 42 = .ok (.goto (-40), 3) := by decide +kernel
theorem kd_B_hasGoneUnits_45 : decode kc_B_hasGoneUnits 45 = .ok (.iconst 0, 1) := by decide +kernel
theorem kd_B_hasGoneUnits_46 : decode kc_B_hasGoneUnits 46 = .ok (.ireturn, 1) := by decide +kernel
