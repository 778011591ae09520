theorem kd_D_rowOf_4 : decode kc_D_rowOf 4 = .ok (.iadd, 1) := by decide +kernel
theorem kd_D_rowOf_5 : decode kc_D_rowOf 5 = .ok (.ireturn, 1) := by decide +kernel
theorem kd_D_isInBounds_0 : decode kc_D_isInBounds 0 = .ok (.iload_n 0, 1) := by decide +kernel
theorem kd_D_isInBounds_1 : decode kc_D_isInBounds 1 = .ok (.tableswitch 52 0 2 #[27, 36, 44], 27) := by decide +kernel
theorem kd_D_isInBounds_28 : decode kc_D_isInBounds 28 = .ok (.iload_n 1, 1) := by decide +kernel
theorem kd_D_isInBounds_29 : decode kc_D_isInBounds 29 = .ok (.iconst 1, 1) := by decide +kernel
theorem kd_D_isInBounds_30 : decode kc_D_isInBounds 30 = .ok (.sipush 1000, 3) := by decide +kernel
theorem kd_D_isInBounds_33 : decode kc_D_isInBounds 33 = .ok (.invokestatic 61, 3) := by decide +kernel
theorem kd_D_isInBounds_36 : decode kc_D_isInBounds 36 = .ok (.ireturn, 1) := by decide +kernel
theorem kd_D_isInBounds_37 : decode kc_D_isInBounds 37 = .ok (.iload_n 1, 1) := by decide +kernel
theorem kd_D_isInBounds_38 : decode kc_D_isInBounds 38 = .ok (.iconst 0, 1) := by decide +kernel
theorem kd_D_isInBounds_39 : decode kc_D_isInBounds 39 = .ok (.ldc 65, 2) := by decide +kernel
theorem kd_D_isInBounds_41 : decode kc_D_isInBounds 41 = .ok (.invokestatic 61, 3) := by decide +kernel
theorem kd_D_isInBounds_44 : decode kc_D_isInBounds 44 = .ok (.ireturn, 1) := by decide +kernel
theorem kd_D_isInBounds_45 : decode kc_D_isInBounds 45 = .ok (.iload_n 1, 1) := by decide +kernel
theorem kd_D_isInBounds_46 : decode kc_D_isInBounds 46 = .ok (.iconst 0, 1) := by decide +kernel
theorem kd_D_isInBounds_47 : decode kc_D_isInBounds 47 = .ok (.ldc 66, 2) := by decide +kernel
theorem kd_D_isInBounds_49 : decode kc_D_isInBounds 49 = .ok (.invokestatic 61, 3) := by decide +kernel
theorem kd_D_isInBounds_52 : decode kc_D_isInBounds 52 = .ok (.ireturn, 1) := by decide +kernel
theorem kd_D_isInBounds_53 : decode kc_D_isInBounds 53 = .ok (.iconst 0, 1) := by decide +kernel
theorem kd_D_isInBounds_54 : decode kc_D_isInBounds 54 = .ok (.ireturn, 1) := by decide +kernel
theorem kd_L_unitsLeft_0 : decode kc_L_unitsLeft 0 = .ok (.iconst 0, 1) := by decide +kernel
theorem kd_L_unitsLeft_1 : decode kc_L_unitsLeft 1 = .ok (.istore_n 3, 1) := by decide +kernel
theorem kd_L_unitsLeft_2 : decode kc_L_unitsLeft 2 = .ok (.iconst 0, 1) := by decide +kernel
theorem kd_L_unitsLeft_3 : decode kc_L_unitsLeft 3 = .ok (.istore 4, 2) := by decide +kernel
theorem kd_L_unitsLeft_5 : decode kc_L_unitsLeft 5 = .ok (.iload 4, 2) := by decide +kernel
theorem kd_L_unitsLeft_7 : decode kc_L_unitsLeft 7 = .ok (.aload_n 0, 1) := by decide +kernel
theorem kd_L_unitsLeft_8 : decode kc_L_unitsLeft 8 = .ok (.getfield 30, 3) := by decide +kernel
theorem kd_L_unitsLeft_11 : decode kc_L_unitsLeft 11 = .ok (.if_icmp .ge 49, 3) := by decide +kernel
theorem kd_L_unitsLeft_14 : decode kc_L_unitsLeft 14 = .ok (.aload_n 0, 1) := by decide +kernel
theorem kd_L_unitsLeft_15 : decode kc_L_unitsLeft 15 = .ok (.getfield 9, 3) := by decide +kernel
theorem kd_L_unitsLeft_18 : decode kc_L_unitsLeft 18 = .ok (.iload 4, 2) := by decide +kernel
theorem kd_L_unitsLeft_20 : decode kc_L_unitsLeft 20 = .ok (.iaload, 1) := by decide +kernel
theorem kd_L_unitsLeft_21 : decode kc_L_unitsLeft 21 = .ok (.iload_n 1, 1) := by decide +kernel
theorem kd_L_unitsLeft_22 : decode kc_L_unitsLeft 22 = .ok (.if_icmp .ne 32, 3) := by decide +kernel
theorem kd_L_unitsLeft_25 : decode kc_L_unitsLeft 25 = .ok (.aload_n 0, 1) := by decide +kernel
theorem kd_L_unitsLeft_26 : decode kc_L_unitsLeft 26 = .ok (.getfield 23, 3) := by decide +kernel
theorem kd_L_unitsLeft_29 : decode kc_L_unitsLeft 29 = .ok (.iload 4, 2) := by decide +kernel
theorem kd_L_unitsLeft_31 : decode kc_L_unitsLeft 31 = .ok (.baload, 1) := by decide +kernel
theorem kd_L_unitsLeft_32 : decode kc_L_unitsLeft 32 = .ok (.iload_n 2, 1) := by decide +kernel
theorem kd_L_unitsLeft_33 : decode kc_L_unitsLeft 33 = .ok (.if_icmp .ne 21, 3) := by decide +kernel
theorem kd_L_unitsLeft_36 : decode kc_L_unitsLeft 36 = .ok (.iload_n 3, 1) := by decide +kernel
theorem kd_L_unitsLeft_37 : decode kc_L_unitsLeft 37 = .ok (.aload_n 0, 1) := by decide +kernel
theorem kd_L_unitsLeft_38 : decode kc_L_unitsLeft 38 = .ok (.getfield 13, 3) := by decide +kernel
theorem kd_L_unitsLeft_41 : decode kc_L_unitsLeft 41 = .ok (.iload 4, 2) := by decide +kernel
theorem kd_L_unitsLeft_43 : decode kc_L_unitsLeft 43 = .ok (.iaload, 1) := by decide +kernel
theorem kd_L_unitsLeft_44 : decode kc_L_unitsLeft 44 = .ok (.aload_n 0, 1) := by decide +kernel
theorem kd_L_unitsLeft_45 : decode kc_L_unitsLeft 45 = .ok (.getfield 16, 3) := by decide +kernel
theorem kd_L_unitsLeft_48 : decode kc_L_unitsLeft 48 = .ok (.iload 4, 2) := by decide +kernel
theorem kd_L_unitsLeft_50 : decode kc_L_unitsLeft 50 = .ok (.iaload, 1) := by decide +kernel
theorem kd_L_unitsLeft_51 : decode kc_L_unitsLeft 51 = .ok (.isub, 1) := by decide +kernel
theorem kd_L_unitsLeft_52 : decode kc_L_unitsLeft 52 = .ok (.iadd, 1) := by decide +kernel
theorem kd_L_unitsLeft_53 : decode kc_L_unitsLeft 53 = .ok (.istore_n 3, 1) := by decide +kernel
theorem kd_L_unitsLeft_54 : decode kc_L_unitsLeft 54 = .ok (.iinc 4 1, 3) := by decide +kernel
theorem kd_L_unitsLeft_57 : decode kc_L_unitsLeft 57 = .ok (.goto (-52), 3) := by decide +kernel
theorem kd_L_unitsLeft_60 : decode kc_L_unitsLeft 60 = .ok (.iload_n 3, 1) := by decide +kernel
theorem kd_L_unitsLeft_61 : decode kc_L_unitsLeft 61 = .ok (.ireturn, 1) := by decide +kernel
theorem kd_L_heldUnitsThatCame_0 : decode kc_L_heldUnitsThatCame 0 = .ok (.iconst 0, 1) := by decide +kernel
theorem kd_L_heldUnitsThatCame_1 : decode kc_L_heldUnitsThatCame 1 = .ok (.istore_n 3, 1) := by decide +kernel
theorem kd_L_heldUnitsThatCame_2 : decode kc_L_heldUnitsThatCame 2 = .ok (.iconst 0, 1) := by decide +kernel
theorem kd_L_heldUnitsThatCame_3 : decode kc_L_heldUnitsThatCame 3 = .ok (.istore 4, 2) := by decide +kernel
theorem kd_L_heldUnitsThatCame_5 : decode kc_L_heldUnitsThatCame 5 = .ok (.iload 4, 2) := by decide +kernel
theorem kd_L_heldUnitsThatCame_7 : decode kc_L_heldUnitsThatCame 7 = .ok (.aload_n 0, 1) := by decide +kernel
theorem kd_L_heldUnitsThatCame_8 : decode kc_L_heldUnitsThatCame 8 = .ok (.getfield 30, 3) := by decide +kernel
theorem kd_L_heldUnitsThatCame_11 : decode kc_L_heldUnitsThatCame 11 = .ok (.if_icmp .ge 51, 3) := by decide +kernel
theorem kd_L_heldUnitsThatCame_14 : decode kc_L_heldUnitsThatCame 14 = .ok (.aload_n 0, 1) := by decide +kernel
theorem kd_L_heldUnitsThatCame_15 : decode kc_L_heldUnitsThatCame 15 = .ok (.getfield 9, 3) := by decide +kernel
theorem kd_L_heldUnitsThatCame_18 : decode kc_L_heldUnitsThatCame 18 = .ok (.iload 4, 2) := by decide +kernel
theorem kd_L_heldUnitsThatCame_20 : decode kc_L_heldUnitsThatCame 20 = .ok (.iaload, 1) := by decide +kernel
theorem kd_L_heldUnitsThatCame_21 : decode kc_L_heldUnitsThatCame 21 = .ok (.iload_n 1, 1) := by decide +kernel
theorem kd_L_heldUnitsThatCame_22 : decode kc_L_heldUnitsThatCame 22 = .ok (.if_icmp .ne 34, 3) := by decide +kernel
theorem kd_L_heldUnitsThatCame_25 : decode kc_L_heldUnitsThatCame 25 = .ok (.aload_n 0, 1) := by decide +kernel
theorem kd_L_heldUnitsThatCame_26 : decode kc_L_heldUnitsThatCame 26 = .ok (.getfield 23, 3) := by decide +kernel
theorem kd_L_heldUnitsThatCame_29 : decode kc_L_heldUnitsThatCame 29 = .ok (.iload 4, 2) := by decide +kernel
theorem kd_L_heldUnitsThatCame_31 : decode kc_L_heldUnitsThatCame 31 = .ok (.baload, 1) := by decide +kernel
theorem kd_L_heldUnitsThatCame_32 : decode kc_L_heldUnitsThatCame 32 = .ok (.ifCond .eq 24, 3) := by decide +kernel
theorem kd_L_heldUnitsThatCame_35 : decode kc_L_heldUnitsThatCame 35 = .ok (.aload_n 0, 1) := by decide +kernel
theorem kd_L_heldUnitsThatCame_36 : decode kc_L_heldUnitsThatCame 36 = .ok (.getfield 27, 3) := by decide +kernel
theorem kd_L_heldUnitsThatCame_39 : decode kc_L_heldUnitsThatCame 39 = .ok (.iload 4, 2) := by decide +kernel
theorem kd_L_heldUnitsThatCame_41 : decode kc_L_heldUnitsThatCame 41 = .ok (.baload, 1) := by decide +kernel
theorem kd_L_heldUnitsThatCame_42 : decode kc_L_heldUnitsThatCame 42 = .ok (.iload_n 2, 1) := by decide +kernel
theorem kd_L_heldUnitsThatCame_43 : decode kc_L_heldUnitsThatCame 43 = .ok (.if_icmp .ne 13, 3) := by decide +kernel
theorem kd_L_heldUnitsThatCame_46 : decode kc_L_heldUnitsThatCame 46 = .ok (.iload_n 3, 1) := by decide +kernel
theorem kd_L_heldUnitsThatCame_47 : decode kc_L_heldUnitsThatCame 47 = .ok (.aload_n 0, 1) := by decide +kernel
theorem kd_L_heldUnitsThatCame_48 : decode kc_L_heldUnitsThatCame 48 = .ok (.getfield 13, 3) := by decide +kernel
theorem kd_L_heldUnitsThatCame_51 : decode kc_L_heldUnitsThatCame 51 = .ok (.iload 4, 2) := by decide +kernel
theorem kd_L_heldUnitsThatCame_53 : decode kc_L_heldUnitsThatCame 53 = .ok (.iaload, 1) := by decide +kernel
theorem kd_L_heldUnitsThatCame_54 : decode kc_L_heldUnitsThatCame 54 = .ok (.iadd, 1) := by decide +kernel
theorem kd_L_heldUnitsThatCame_55 : decode kc_L_heldUnitsThatCame 55 = .ok (.istore_n 3, 1) := by decide +kernel
theorem kd_L_heldUnitsThatCame_56 : decode kc_L_heldUnitsThatCame 56 = .ok (.iinc 4 1, 3) := by decide +kernel
theorem kd_L_heldUnitsThatCame_59 : decode kc_L_heldUnitsThatCame 59 = .ok (.goto (-54), 3) := by decide +kernel
theorem kd_L_heldUnitsThatCame_62 : decode kc_L_heldUnitsThatCame 62 = .ok (.iload_n 3, 1) := by decide +kernel
theorem kd_L_heldUnitsThatCame_63 : decode kc_L_heldUnitsThatCame 63 = .ok (.ireturn, 1) := by decide +kernel
