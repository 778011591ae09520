theorem kd_T_inheritFromParent_42 : decode kc_T_inheritFromParent 42 = .ok (.getfield 45, 3) := by decide +kernel
theorem kd_T_inheritFromParent_45 : decode kc_T_inheritFromParent 45 = .ok (.iload_n 1, 1) := by decide +kernel
theorem kd_T_inheritFromParent_46 : decode kc_T_inheritFromParent 46 = .ok (.aload_n 0, 1) := by decide +kernel
theorem kd_T_inheritFromParent_47 : decode kc_T_inheritFromParent 47 = .ok (.getfield 45, 3) := by decide +kernel
theorem kd_T_inheritFromParent_50 : decode kc_T_inheritFromParent 50 = .ok (.iload_n 1, 1) := by decide +kernel
theorem kd_T_inheritFromParent_51 : decode kc_T_inheritFromParent 51 = .ok (.iaload, 1) := by decide +kernel
theorem kd_T_inheritFromParent_52 : decode kc_T_inheritFromParent 52 = .ok (.aload_n 0, 1) := by decide +kernel
theorem kd_T_inheritFromParent_53 : decode kc_T_inheritFromParent 53 = .ok (.getfield 45, 3) := by decide +kernel
theorem kd_T_inheritFromParent_56 : decode kc_T_inheritFromParent 56 = .ok (.iload_n 2, 1) := by decide +kernel
theorem kd_T_inheritFromParent_57 : decode kc_T_inheritFromParent 57 = .ok (.iaload, 1) := by decide +kernel
theorem kd_T_inheritFromParent_58 : decode kc_T_inheritFromParent 58 = .ok (.invokestatic 77, 3) := by decide +kernel
theorem kd_T_inheritFromParent_61 : decode kc_T_inheritFromParent 61 = .ok (.iastore, 1) := by decide +kernel
theorem kd_T_inheritFromParent_62 : decode kc_T_inheritFromParent 62 = .ok (.return_, 1) := by decide +kernel
theorem kd_T_isAsGood_0 : decode kc_T_isAsGood 0 = .ok (.aload_n 0, 1) := by decide +kernel
theorem kd_T_isAsGood_1 : decode kc_T_isAsGood 1 = .ok (.getfield 15, 3) := by decide +kernel
theorem kd_T_isAsGood_4 : decode kc_T_isAsGood 4 = .ok (.iload_n 1, 1) := by decide +kernel
theorem kd_T_isAsGood_5 : decode kc_T_isAsGood 5 = .ok (.iaload, 1) := by decide +kernel
theorem kd_T_isAsGood_6 : decode kc_T_isAsGood 6 = .ok (.aload_n 0, 1) := by decide +kernel
theorem kd_T_isAsGood_7 : decode kc_T_isAsGood 7 = .ok (.getfield 15, 3) := by decide +kernel
theorem kd_T_isAsGood_10 : decode kc_T_isAsGood 10 = .ok (.iload_n 2, 1) := by decide +kernel
theorem kd_T_isAsGood_11 : decode kc_T_isAsGood 11 = .ok (.iaload, 1) := by decide +kernel
theorem kd_T_isAsGood_12 : decode kc_T_isAsGood 12 = .ok (.if_icmp .eq 24, 3) := by decide +kernel
theorem kd_T_isAsGood_15 : decode kc_T_isAsGood 15 = .ok (.aload_n 0, 1) := by decide +kernel
theorem kd_T_isAsGood_16 : decode kc_T_isAsGood 16 = .ok (.getfield 15, 3) := by decide +kernel
theorem kd_T_isAsGood_19 : decode kc_T_isAsGood 19 = .ok (.iload_n 1, 1) := by decide +kernel
theorem kd_T_isAsGood_20 : decode kc_T_isAsGood 20 = .ok (.iaload, 1) := by decide +kernel
theorem kd_T_isAsGood_21 : decode kc_T_isAsGood 21 = .ok (.aload_n 0, 1) := by decide +kernel
theorem kd_T_isAsGood_22 : decode kc_T_isAsGood 22 = .ok (.getfield 15, 3) := by decide +kernel
theorem kd_T_isAsGood_25 : decode kc_T_isAsGood 25 = .ok (.iload_n 2, 1) := by decide +kernel
theorem kd_T_isAsGood_26 : decode kc_T_isAsGood 26 = .ok (.iaload, 1) := by decide +kernel
theorem kd_T_isAsGood_27 : decode kc_T_isAsGood 27 = .ok (.if_icmp .le 7, 3) := by decide +kernel
theorem kd_T_isAsGood_30 : decode kc_T_isAsGood 30 = .ok (.iconst 1, 1) := by decide +kernel
theorem kd_T_isAsGood_31 : decode kc_T_isAsGood 31 = .ok (.goto 4, 3) := by decide +kernel
theorem kd_T_isAsGood_34 : decode kc_T_isAsGood 34 = .ok (.iconst 0, 1) := by decide +kernel
theorem kd_T_isAsGood_35 : decode kc_T_isAsGood 35 = .ok (.ireturn, 1) := by decide +kernel
theorem kd_T_isAsGood_36 : decode kc_T_isAsGood 36 = .ok (.aload_n 0, 1) := by decide +kernel
theorem kd_T_isAsGood_37 : decode kc_T_isAsGood 37 = .ok (.getfield 45, 3) := by decide +kernel
theorem kd_T_isAsGood_40 : decode kc_T_isAsGood 40 = .ok (.iload_n 1, 1) := by decide +kernel
theorem kd_T_isAsGood_41 : decode kc_T_isAsGood 41 = .ok (.iaload, 1) := by decide +kernel
theorem kd_T_isAsGood_42 : decode kc_T_isAsGood 42 = .ok (.aload_n 0, 1) := by decide +kernel
theorem kd_T_isAsGood_43 : decode kc_T_isAsGood 43 = .ok (.getfield 45, 3) := by decide +kernel
theorem kd_T_isAsGood_46 : decode kc_T_isAsGood 46 = .ok (.iload_n 2, 1) := by decide +kernel
theorem kd_T_isAsGood_47 : decode kc_T_isAsGood 47 = .ok (.iaload, 1) := by decide +kernel
theorem kd_T_isAsGood_48 : decode kc_T_isAsGood 48 = .ok (.if_icmp .lt 7, 3) := by decide +kernel
theorem kd_T_isAsGood_51 : decode kc_T_isAsGood 51 = .ok (.iconst 1, 1) := by decide +kernel
theorem kd_T_isAsGood_52 : decode kc_T_isAsGood 52 = .ok (.goto 4, 3) := by decide +kernel
theorem kd_T_isAsGood_55 : decode kc_T_isAsGood 55 = .ok (.iconst 0, 1) := by decide +kernel
theorem kd_T_isAsGood_56 : decode kc_T_isAsGood 56 = .ok (.ireturn, 1) := by decide +kernel
theorem kd_T_classOf_0 : decode kc_T_classOf 0 = .ok (.aload_n 0, 1) := by decide +kernel
theorem kd_T_classOf_1 : decode kc_T_classOf 1 = .ok (.iload_n 1, 1) := by decide +kernel
theorem kd_T_classOf_2 : decode kc_T_classOf 2 = .ok (.invokevirtual 59, 3) := by decide +kernel
theorem kd_T_classOf_5 : decode kc_T_classOf 5 = .ok (.iconst (-1), 1) := by decide +kernel
theorem kd_T_classOf_6 : decode kc_T_classOf 6 = .ok (.istore_n 2, 1) := by decide +kernel
theorem kd_T_classOf_7 : decode kc_T_classOf 7 = .ok (.iconst 0, 1) := by decide +kernel
theorem kd_T_classOf_8 : decode kc_T_classOf 8 = .ok (.istore_n 3, 1) := by decide +kernel
theorem kd_T_classOf_9 : decode kc_T_classOf 9 = .ok (.iload_n 3, 1) := by decide +kernel
theorem kd_T_classOf_10 : decode kc_T_classOf 10 = .ok (.aload_n 0, 1) := by decide +kernel
theorem kd_T_classOf_11 : decode kc_T_classOf 11 = .ok (.getfield 48, 3) := by decide +kernel
theorem kd_T_classOf_14 : decode kc_T_classOf 14 = .ok (.if_icmp .ge 39, 3) := by decide +kernel
theorem kd_T_classOf_17 : decode kc_T_classOf 17 = .ok (.aload_n 0, 1) := by decide +kernel
theorem kd_T_classOf_18 : decode kc_T_classOf 18 = .ok (.iload_n 3, 1) := by decide +kernel
theorem kd_T_classOf_19 : decode kc_T_classOf 19 = .ok (.invokevirtual 63, 3) := by decide +kernel
theorem kd_T_classOf_22 : decode kc_T_classOf 22 = .ok (.aload_n 0, 1) := by decide +kernel
theorem kd_T_classOf_23 : decode kc_T_classOf 23 = .ok (.getfield 41, 3) := by decide +kernel
theorem kd_T_classOf_26 : decode kc_T_classOf 26 = .ok (.iload_n 3, 1) := by decide +kernel
theorem kd_T_classOf_27 : decode kc_T_classOf 27 = .ok (.baload, 1) := by decide +kernel
theorem kd_T_classOf_28 : decode kc_T_classOf 28 = .ok (.ifCond .eq 19, 3) := by decide +kernel
theorem kd_T_classOf_31 : decode kc_T_classOf 31 = .ok (.iload_n 2, 1) := by decide +kernel
theorem kd_T_classOf_32 : decode kc_T_classOf 32 = .ok (.iconst (-1), 1) := by decide +kernel
theorem kd_T_classOf_33 : decode kc_T_classOf 33 = .ok (.if_icmp .eq 12, 3) := by decide +kernel
theorem kd_T_classOf_36 : decode kc_T_classOf 36 = .ok (.aload_n 0, 1) := by decide +kernel
theorem kd_T_classOf_37 : decode kc_T_classOf 37 = .ok (.iload_n 3, 1) := by decide +kernel
theorem kd_T_classOf_38 : decode kc_T_classOf 38 = .ok (.iload_n 2, 1) := by decide +kernel
theorem kd_T_classOf_39 : decode kc_T_classOf 39 = .ok (.invokevirtual 66, 3) := by decide +kernel
theorem kd_T_classOf_42 : decode kc_T_classOf 42 = .ok (.ifCond .eq 5, 3) := by decide +kernel
theorem kd_T_classOf_45 : decode kc_T_classOf 45 = .ok (.iload_n 3, 1) := by decide +kernel
theorem kd_T_classOf_46 : decode kc_T_classOf 46 = .ok (.istore_n 2, 1) := by decide +kernel
theorem kd_T_classOf_47 : decode kc_T_classOf 47 = .ok (.iinc 3 1, 3) := by decide +kernel
theorem kd_T_classOf_50 : decode kc_T_classOf 50 = .ok (.goto (-41), 3) := by decide +kernel
theorem kd_T_classOf_53 : decode kc_T_classOf 53 = .ok (.iload_n 2, 1) := by decide +kernel
theorem kd_T_classOf_54 : decode kc_T_classOf 54 = .ok (.ireturn, 1) := by decide +kernel
theorem kd_T_isSameOrAbove_0 : decode kc_T_isSameOrAbove 0 = .ok (.iload_n 2, 1) := by decide +kernel
theorem kd_T_isSameOrAbove_1 : decode kc_T_isSameOrAbove 1 = .ok (.istore_n 3, 1) := by decide +kernel
theorem kd_T_isSameOrAbove_2 : decode kc_T_isSameOrAbove 2 = .ok (.iconst 0, 1) := by decide +kernel
theorem kd_T_isSameOrAbove_3 : decode kc_T_isSameOrAbove 3 = .ok (.istore 4, 2) := by decide +kernel
theorem kd_T_isSameOrAbove_5 : decode kc_T_isSameOrAbove 5 = .ok (.iload 4, 2) := by decide +kernel
theorem kd_T_isSameOrAbove_7 : decode kc_T_isSameOrAbove 7 = .ok (.iconst 5, 1) := by decide +kernel
theorem kd_T_isSameOrAbove_8 : decode kc_T_isSameOrAbove 8 = .ok (.if_icmp .gt 28, 3) := by decide +kernel
theorem kd_T_isSameOrAbove_11 : decode kc_T_isSameOrAbove 11 = .ok (.iload_n 3, 1) := by decide +kernel
theorem kd_T_isSameOrAbove_12 : decode kc_T_isSameOrAbove 12 = .ok (.iconst (-1), 1) := by decide +kernel
theorem kd_T_isSameOrAbove_13 : decode kc_T_isSameOrAbove 13 = .ok (.if_icmp .eq 23, 3) := by decide +kernel
theorem kd_T_isSameOrAbove_16 : decode kc_T_isSameOrAbove 16 = .ok (.iload_n 3, 1) := by decide +kernel
theorem kd_T_isSameOrAbove_17 : decode kc_T_isSameOrAbove 17 = .ok (.iload_n 1, 1) := by decide +kernel
theorem kd_T_isSameOrAbove_18 : decode kc_T_isSameOrAbove 18 = .ok (.if_icmp .ne 5, 3) := by decide +kernel
theorem kd_T_isSameOrAbove_21 : decode kc_T_isSameOrAbove 21 = .ok (.iconst 1, 1) := by decide +kernel
theorem kd_T_isSameOrAbove_22 : decode kc_T_isSameOrAbove 22 = .ok (.ireturn, 1) := by decide +kernel
theorem kd_T_isSameOrAbove_23 : decode kc_T_isSameOrAbove 23 = .ok (.aload_n 0, 1) := by decide +kernel
theorem kd_T_isSameOrAbove_24 : decode kc_T_isSameOrAbove 24 = .ok (.getfield 11, 3) := by decide +kernel
theorem kd_T_isSameOrAbove_27 : decode kc_T_isSameOrAbove 27 = .ok (.iload_n 3, 1) := by decide +kernel
theorem kd_T_isSameOrAbove_28 : decode kc_T_isSameOrAbove 28 = .ok (.iaload, 1) := by decide +kernel
theorem kd_T_isSameOrAbove_29 : decode kc_T_isSameOrAbove 29 = .ok (.istore_n 3, 1) := by decide +kernel
theorem kd_T_isSameOrAbove_30 : decode kc_T_isSameOrAbove 30 = .ok (.iinc 4 1, 3) := by decide +kernel
theorem kd_T_isSameOrAbove_33 : decode kc_T_isSameOrAbove 33 = .ok (.goto (-28), 3) := by decide +kernel
theorem kd_T_isSameOrAbove_36 : decode kc_T_isSameOrAbove 36 = .ok (.iconst 0, 1) := by decide +kernel
theorem kd_T_isSameOrAbove_37 : decode kc_T_isSameOrAbove 37 = .ok (.ireturn, 1) := by decide +kernel
theorem kd_T_headingWithRule_0 : decode kc_T_headingWithRule 0 = .ok (.iload_n 1, 1) := by decide +kernel
theorem kd_T_headingWithRule_1 : decode kc_T_headingWithRule 1 = .ok (.istore_n 2, 1) := by decide +kernel
theorem kd_T_headingWithRule_2 : decode kc_T_headingWithRule 2 = .ok (.iconst 0, 1) := by decide +kernel
theorem kd_T_headingWithRule_3 : decode kc_T_headingWithRule 3 = .ok (.istore_n 3, 1) := by decide +kernel
theorem kd_T_headingWithRule_4 : decode kc_T_headingWithRule 4 = .ok (.iload_n 3, 1) := by decide +kernel
theorem kd_T_headingWithRule_5 : decode kc_T_headingWithRule 5 = .ok (.iconst 5, 1) := by decide +kernel
theorem kd_T_headingWithRule_6 : decode kc_T_headingWithRule 6 = .ok (.if_icmp .gt 33, 3) := by decide +kernel
theorem kd_T_headingWithRule_9 : decode kc_T_headingWithRule 9 = .ok (.iload_n 2, 1) := by decide +kernel
theorem kd_T_headingWithRule_10 : decode kc_T_headingWithRule 10 = .ok (.iconst (-1), 1) := by decide +kernel
theorem kd_T_headingWithRule_11 : decode kc_T_headingWithRule 11 = .ok (.if_icmp .eq 28, 3) := by decide +kernel
theorem kd_T_headingWithRule_14 : decode kc_T_headingWithRule 14 = .ok (.aload_n 0, 1) := by decide +kernel
theorem kd_T_headingWithRule_15 : decode kc_T_headingWithRule 15 = .ok (.getfield 18, 3) := by decide +kernel
theorem kd_T_headingWithRule_18 : decode kc_T_headingWithRule 18 = .ok (.iload_n 2, 1) := by decide +kernel
theorem kd_T_headingWithRule_19 : decode kc_T_headingWithRule 19 = .ok (.iaload, 1) := by decide +kernel
theorem kd_T_headingWithRule_20 : decode kc_T_headingWithRule 20 = .ok (.iconst (-1), 1) := by decide +kernel
theorem kd_T_headingWithRule_21 : decode kc_T_headingWithRule 21 = .ok (.if_icmp .eq 5, 3) := by decide +kernel
theorem kd_T_headingWithRule_24 : decode kc_T_headingWithRule 24 = .ok (.iload_n 2, 1) := by decide +kernel
theorem kd_T_headingWithRule_25 : decode kc_T_headingWithRule 25 = .ok (.ireturn, 1) := by decide +kernel
theorem kd_T_headingWithRule_26 : decode kc_T_headingWithRule 26 = .ok (.aload_n 0, 1) := by decide +kernel
theorem kd_T_headingWithRule_27 : decode kc_T_headingWithRule 27 = .ok (.getfield 11, 3) := by decide +kernel
theorem kd_T_headingWithRule_30 : decode kc_T_headingWithRule 30 = .ok (.iload_n 2, 1) := by decide +kernel
theorem kd_T_headingWithRule_31 : decode kc_T_headingWithRule 31 = .ok (.iaload, 1) := by decide +kernel
theorem kd_T_headingWithRule_32 : decode kc_T_headingWithRule 32 = .ok (.istore_n 2, 1) := by decide +kernel
theorem kd_T_headingWithRule_33 : decode kc_T_headingWithRule 33 = .ok (.iinc 3 1, 3) := by decide +kernel
theorem kd_T_headingWithRule_36 : decode kc_T_headingWithRule 36 = .ok (.goto (-32), 3) := by decide +kernel
theorem kd_T_headingWithRule_39 : decode kc_T_headingWithRule 39 = .ok (.iconst (-1), 1) := by decide +kernel
theorem kd_T_headingWithRule_40 : decode kc_T_headingWithRule 40 = .ok (.ireturn, 1) := by decide +kernel
