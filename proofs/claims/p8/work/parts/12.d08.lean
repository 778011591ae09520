theorem kd_Q_find_45 : decode kc_Q_find 45 = .ok (.getfield 30, 3) := by decide +kernel
theorem kd_Q_find_48 : decode kc_Q_find 48 = .ok (.aload_n 0, 1) := by decide +kernel
theorem kd_Q_find_49 : decode kc_Q_find 49 = .ok (.getfield 18, 3) := by decide +kernel
theorem kd_Q_find_52 : decode kc_Q_find 52 = .ok (.iload 4, 2) := by decide +kernel
theorem kd_Q_find_54 : decode kc_Q_find 54 = .ok (.iaload, 1) := by decide +kernel
theorem kd_Q_find_55 : decode kc_Q_find 55 = .ok (.iload_n 1, 1) := by decide +kernel
theorem kd_Q_find_56 : decode kc_Q_find 56 = .ok (.invokevirtual 42, 3) := by decide +kernel
theorem kd_Q_find_59 : decode kc_Q_find 59 = .ok (.ifCond .eq 6, 3) := by decide +kernel
theorem kd_Q_find_62 : decode kc_Q_find 62 = .ok (.iload 4, 2) := by decide +kernel
theorem kd_Q_find_64 : decode kc_Q_find 64 = .ok (.ireturn, 1) := by decide +kernel
theorem kd_Q_find_65 : decode kc_Q_find 65 = .ok (.iinc 4 1, 3) := by decide +kernel
theorem kd_Q_find_68 : decode kc_Q_find 68 = .ok (.goto (-65), 3) := by decide +kernel
theorem kd_Q_find_71 : decode kc_Q_find 71 = .ok (.iconst (-1), 1) := by decide +kernel
theorem kd_Q_find_72 : decode kc_Q_find 72 = .ok (.ireturn, 1) := by decide +kernel
theorem kd_O_has_0 : decode kc_O_has 0 = .ok (.iload_n 0, 1) := by decide +kernel
theorem kd_O_has_1 : decode kc_O_has 1 = .ok (.iload_n 1, 1) := by decide +kernel
theorem kd_O_has_2 : decode kc_O_has 2 = .ok (.ishr, 1) := by decide +kernel
theorem kd_O_has_3 : decode kc_O_has 3 = .ok (.iconst 1, 1) := by decide +kernel
theorem kd_O_has_4 : decode kc_O_has 4 = .ok (.iand, 1) := by decide +kernel
theorem kd_O_has_5 : decode kc_O_has 5 = .ok (.iconst 1, 1) := by decide +kernel
theorem kd_O_has_6 : decode kc_O_has 6 = .ok (.if_icmp .ne 7, 3) := by decide +kernel
theorem kd_O_has_9 : decode kc_O_has 9 = .ok (.iconst 1, 1) := by decide +kernel
theorem kd_O_has_10 : decode kc_O_has 10 = .ok (.goto 4, 3) := by decide +kernel
theorem kd_O_has_13 : decode kc_O_has 13 = .ok (.iconst 0, 1) := by decide +kernel
theorem kd_O_has_14 : decode kc_O_has 14 = .ok (.ireturn, 1) := by decide +kernel
theorem kd_O_wouldComeRound_0 : decode kc_O_wouldComeRound 0 = .ok (.iload_n 1, 1) := by decide +kernel
theorem kd_O_wouldComeRound_1 : decode kc_O_wouldComeRound 1 = .ok (.iload_n 2, 1) := by decide +kernel
theorem kd_O_wouldComeRound_2 : decode kc_O_wouldComeRound 2 = .ok (.if_icmp .eq 16, 3) := by decide +kernel
theorem kd_O_wouldComeRound_5 : decode kc_O_wouldComeRound 5 = .ok (.aload_n 0, 1) := by decide +kernel
theorem kd_O_wouldComeRound_6 : decode kc_O_wouldComeRound 6 = .ok (.getfield 29, 3) := by decide +kernel
theorem kd_O_wouldComeRound_9 : decode kc_O_wouldComeRound 9 = .ok (.iload_n 2, 1) := by decide +kernel
theorem kd_O_wouldComeRound_10 : decode kc_O_wouldComeRound 10 = .ok (.iaload, 1) := by decide +kernel
theorem kd_O_wouldComeRound_11 : decode kc_O_wouldComeRound 11 = .ok (.iload_n 1, 1) := by decide +kernel
theorem kd_O_wouldComeRound_12 : decode kc_O_wouldComeRound 12 = .ok (.invokestatic 36, 3) := by decide +kernel
theorem kd_O_wouldComeRound_15 : decode kc_O_wouldComeRound 15 = .ok (.ifCond .eq 7, 3) := by decide +kernel
theorem kd_O_wouldComeRound_18 : decode kc_O_wouldComeRound 18 = .ok (.iconst 1, 1) := by decide +kernel
theorem kd_O_wouldComeRound_19 : decode kc_O_wouldComeRound 19 = .ok (.goto 4, 3) := by decide +kernel
theorem kd_O_wouldComeRound_22 : decode kc_O_wouldComeRound 22 = .ok (.iconst 0, 1) := by decide +kernel
theorem kd_O_wouldComeRound_23 : decode kc_O_wouldComeRound 23 = .ok (.ireturn, 1) := by decide +kernel
theorem kd_O_addPart_0 : decode kc_O_addPart 0 = .ok (.aload_n 0, 1) := by decide +kernel
theorem kd_O_addPart_1 : decode kc_O_addPart 1 = .ok (.getfield 15, 3) := by decide +kernel
theorem kd_O_addPart_4 : decode kc_O_addPart 4 = .ok (.iload_n 1, 1) := by decide +kernel
theorem kd_O_addPart_5 : decode kc_O_addPart 5 = .ok (.iaload, 1) := by decide +kernel
theorem kd_O_addPart_6 : decode kc_O_addPart 6 = .ok (.istore 5, 2) := by decide +kernel
theorem kd_O_addPart_8 : decode kc_O_addPart 8 = .ok (.aload_n 0, 1) := by decide +kernel
theorem kd_O_addPart_9 : decode kc_O_addPart 9 = .ok (.getfield 20, 3) := by decide +kernel
theorem kd_O_addPart_12 : decode kc_O_addPart 12 = .ok (.iload_n 1, 1) := by decide +kernel
theorem kd_O_addPart_13 : decode kc_O_addPart 13 = .ok (.aaload, 1) := by decide +kernel
theorem kd_O_addPart_14 : decode kc_O_addPart 14 = .ok (.iload 5, 2) := by decide +kernel
theorem kd_O_addPart_16 : decode kc_O_addPart 16 = .ok (.iload_n 2, 1) := by decide +kernel
theorem kd_O_addPart_17 : decode kc_O_addPart 17 = .ok (.iastore, 1) := by decide +kernel
theorem kd_O_addPart_18 : decode kc_O_addPart 18 = .ok (.aload_n 0, 1) := by decide +kernel
theorem kd_O_addPart_19 : decode kc_O_addPart 19 = .ok (.getfield 23, 3) := by decide +kernel
theorem kd_O_addPart_22 : decode kc_O_addPart 22 = .ok (.iload_n 1, 1) := by decide +kernel
theorem kd_O_addPart_23 : decode kc_O_addPart 23 = .ok (.aaload, 1) := by decide +kernel
theorem kd_O_addPart_24 : decode kc_O_addPart 24 = .ok (.iload 5, 2) := by decide +kernel
theorem kd_O_addPart_26 : decode kc_O_addPart 26 = .ok (.iload_n 3, 1) := by decide +kernel
theorem kd_O_addPart_27 : decode kc_O_addPart 27 = .ok (.iastore, 1) := by decide +kernel
theorem kd_O_addPart_28 : decode kc_O_addPart 28 = .ok (.aload_n 0, 1) := by decide +kernel
theorem kd_O_addPart_29 : decode kc_O_addPart 29 = .ok (.getfield 26, 3) := by decide +kernel
theorem kd_O_addPart_32 : decode kc_O_addPart 32 = .ok (.iload_n 1, 1) := by decide +kernel
theorem kd_O_addPart_33 : decode kc_O_addPart 33 = .ok (.aaload, 1) := by decide +kernel
theorem kd_O_addPart_34 : decode kc_O_addPart 34 = .ok (.iload 5, 2) := by decide +kernel
theorem kd_O_addPart_36 : decode kc_O_addPart 36 = .ok (.iload 4, 2) := by decide +kernel
theorem kd_O_addPart_38 : decode kc_O_addPart 38 = .ok (.iastore, 1) := by decide +kernel
theorem kd_O_addPart_39 : decode kc_O_addPart 39 = .ok (.aload_n 0, 1) := by decide +kernel
theorem kd_O_addPart_40 : decode kc_O_addPart 40 = .ok (.getfield 15, 3) := by decide +kernel
theorem kd_O_addPart_43 : decode kc_O_addPart 43 = .ok (.iload_n 1, 1) := by decide +kernel
theorem kd_O_addPart_44 : decode kc_O_addPart 44 = .ok (.dup2, 1) := by decide +kernel
theorem kd_O_addPart_45 : decode kc_O_addPart 45 = .ok (.iaload, 1) := by decide +kernel
theorem kd_O_addPart_46 : decode kc_O_addPart 46 = .ok (.iconst 1, 1) := by decide +kernel
theorem kd_O_addPart_47 : decode kc_O_addPart 47 = .ok (.iadd, 1) := by decide +kernel
theorem kd_O_addPart_48 : decode kc_O_addPart 48 = .ok (.iastore, 1) := by decide +kernel
theorem kd_O_addPart_49 : decode kc_O_addPart 49 = .ok (.aload_n 0, 1) := by decide +kernel
theorem kd_O_addPart_50 : decode kc_O_addPart 50 = .ok (.getfield 29, 3) := by decide +kernel
theorem kd_O_addPart_53 : decode kc_O_addPart 53 = .ok (.iload_n 2, 1) := by decide +kernel
theorem kd_O_addPart_54 : decode kc_O_addPart 54 = .ok (.iaload, 1) := by decide +kernel
theorem kd_O_addPart_55 : decode kc_O_addPart 55 = .ok (.iconst 1, 1) := by decide +kernel
theorem kd_O_addPart_56 : decode kc_O_addPart 56 = .ok (.iload_n 2, 1) := by decide +kernel
theorem kd_O_addPart_57 : decode kc_O_addPart 57 = .ok (.ishl, 1) := by decide +kernel
theorem kd_O_addPart_58 : decode kc_O_addPart 58 = .ok (.ior, 1) := by decide +kernel
theorem kd_O_addPart_59 : decode kc_O_addPart 59 = .ok (.istore 6, 2) := by decide +kernel
theorem kd_O_addPart_61 : decode kc_O_addPart 61 = .ok (.iconst 0, 1) := by decide +kernel
theorem kd_O_addPart_62 : decode kc_O_addPart 62 = .ok (.istore 7, 2) := by decide +kernel
theorem kd_O_addPart_64 : decode kc_O_addPart 64 = .ok (.iload 7, 2) := by decide +kernel
theorem kd_O_addPart_66 : decode kc_O_addPart 66 = .ok (.bipush 16, 2) := by decide +kernel
theorem kd_O_addPart_68 : decode kc_O_addPart 68 = .ok (.if_icmp .ge 41, 3) := by decide +kernel
theorem kd_O_addPart_71 : decode kc_O_addPart 71 = .ok (.iload 7, 2) := by decide +kernel
theorem kd_O_addPart_73 : decode kc_O_addPart 73 = .ok (.iload_n 1, 1) := by decide +kernel
theorem kd_O_addPart_74 : decode kc_O_addPart 74 = .ok (.if_icmp .eq 17, 3) := by decide +kernel
theorem kd_O_addPart_77 : decode kc_O_addPart 77 = .ok (.aload_n 0, 1) := by decide +kernel
theorem kd_O_addPart_78 : decode kc_O_addPart 78 = .ok (.getfield 29, 3) := by decide +kernel
theorem kd_O_addPart_81 : decode kc_O_addPart 81 = .ok (.iload 7, 2) := by decide +kernel
theorem kd_O_addPart_83 : decode kc_O_addPart 83 = .ok (.iaload, 1) := by decide +kernel
theorem kd_O_addPart_84 : decode kc_O_addPart 84 = .ok (.iload_n 1, 1) := by decide +kernel
theorem kd_O_addPart_85 : decode kc_O_addPart 85 = .ok (.invokestatic 36, 3) := by decide +kernel
theorem kd_O_addPart_88 : decode kc_O_addPart 88 = .ok (.ifCond .eq 15, 3) := by decide +kernel
theorem kd_O_addPart_91 : decode kc_O_addPart 91 = .ok (.aload_n 0, 1) := by decide +kernel
theorem kd_O_addPart_92 : decode kc_O_addPart 92 = .ok (.getfield 29, 3) := by decide +kernel
theorem kd_O_addPart_95 : decode kc_O_addPart 95 = .ok (.iload 7, 2) := by decide +kernel
theorem kd_O_addPart_97 : decode kc_O_addPart 97 = .ok (.dup2, 1) := by decide +kernel
theorem kd_O_addPart_98 : decode kc_O_addPart 98 = .ok (.iaload, 1) := by decide +kernel
theorem kd_O_addPart_99 : decode kc_O_addPart 99 = .ok (.iload 6, 2) := by decide +kernel
theorem kd_O_addPart_101 : decode kc_O_addPart 101 = .ok (.ior, 1) := by decide +kernel
theorem kd_O_addPart_102 : decode kc_O_addPart 102 = .ok (.iastore, 1) := by decide +kernel
theorem kd_O_addPart_103 : decode kc_O_addPart 103 = .ok (.iinc 7 1, 3) := by decide +kernel
theorem kd_O_addPart_106 : decode kc_O_addPart 106 = .ok (.goto (-42), 3) := by decide +kernel
theorem kd_O_addPart_109 : decode kc_O_addPart 109 = .ok (.aload_n 0, 1) := by decide +kernel
theorem kd_O_addPart_110 : decode kc_O_addPart 110 = .ok (.getfield 15, 3) := by decide +kernel
theorem kd_O_addPart_113 : decode kc_O_addPart 113 = .ok (.iload_n 1, 1) := by decide +kernel
theorem kd_O_addPart_114 : decode kc_O_addPart 114 = .ok (.iaload, 1) := by decide +kernel
theorem kd_O_addPart_115 : decode kc_O_addPart 115 = .ok (.ireturn, 1) := by decide +kernel
theorem kd_O_isForeign_0 : decode kc_O_isForeign 0 = .ok (.aload_n 0, 1) := by decide +kernel
theorem kd_O_isForeign_1 : decode kc_O_isForeign 1 = .ok (.getfield 20, 3) := by decide +kernel
theorem kd_O_isForeign_4 : decode kc_O_isForeign 4 = .ok (.iload_n 1, 1) := by decide +kernel
theorem kd_O_isForeign_5 : decode kc_O_isForeign 5 = .ok (.aaload, 1) := by decide +kernel
theorem kd_O_isForeign_6 : decode kc_O_isForeign 6 = .ok (.iload_n 2, 1) := by decide +kernel
theorem kd_O_isForeign_7 : decode kc_O_isForeign 7 = .ok (.iaload, 1) := by decide +kernel
theorem kd_O_isForeign_8 : decode kc_O_isForeign 8 = .ok (.istore 5, 2) := by decide +kernel
theorem kd_O_isForeign_10 : decode kc_O_isForeign 10 = .ok (.aload_n 0, 1) := by decide +kernel
theorem kd_O_isForeign_11 : decode kc_O_isForeign 11 = .ok (.getfield 9, 3) := by decide +kernel
theorem kd_O_isForeign_14 : decode kc_O_isForeign 14 = .ok (.iload_n 3, 1) := by decide +kernel
theorem kd_O_isForeign_15 : decode kc_O_isForeign 15 = .ok (.iaload, 1) := by decide +kernel
theorem kd_O_isForeign_16 : decode kc_O_isForeign 16 = .ok (.aload_n 0, 1) := by decide +kernel
theorem kd_O_isForeign_17 : decode kc_O_isForeign 17 = .ok (.getfield 26, 3) := by decide +kernel
theorem kd_O_isForeign_20 : decode kc_O_isForeign 20 = .ok (.iload_n 1, 1) := by decide +kernel
theorem kd_O_isForeign_21 : decode kc_O_isForeign 21 = .ok (.aaload, 1) := by decide +kernel
theorem kd_O_isForeign_22 : decode kc_O_isForeign 22 = .ok (.iload_n 2, 1) := by decide +kernel
theorem kd_O_isForeign_23 : decode kc_O_isForeign 23 = .ok (.iaload, 1) := by decide +kernel
theorem kd_O_isForeign_24 : decode kc_O_isForeign 24 = .ok (.invokestatic 36, 3) := by decide +kernel
theorem kd_O_isForeign_27 : decode kc_O_isForeign 27 = .ok (.ifCond .eq 23, 3) := by decide +kernel
theorem kd_O_isForeign_30 : decode kc_O_isForeign 30 = .ok (.aload_n 0, 1) := by decide +kernel
theorem kd_O_isForeign_31 : decode kc_O_isForeign 31 = .ok (.getfield 15, 3) := by decide +kernel
theorem kd_O_isForeign_34 : decode kc_O_isForeign 34 = .ok (.iload 5, 2) := by decide +kernel
theorem kd_O_isForeign_36 : decode kc_O_isForeign 36 = .ok (.iaload, 1) := by decide +kernel
theorem kd_O_isForeign_37 : decode kc_O_isForeign 37 = .ok (.ifCond .le 17, 3) := by decide +kernel
theorem kd_O_isForeign_40 : decode kc_O_isForeign 40 = .ok (.iload 4, 2) := by decide +kernel
theorem kd_O_isForeign_42 : decode kc_O_isForeign 42 = .ok (.iload 5, 2) := by decide +kernel
theorem kd_O_isForeign_44 : decode kc_O_isForeign 44 = .ok (.invokestatic 36, 3) := by decide +kernel
theorem kd_O_isForeign_47 : decode kc_O_isForeign 47 = .ok (.ifCond .ne 7, 3) := by decide +kernel
theorem kd_O_isForeign_50 : decode kc_O_isForeign 50 = .ok (.iconst 1, 1) := by decide +kernel
theorem kd_O_isForeign_51 : decode kc_O_isForeign 51 = .ok (.goto 4, 3) := by decide +kernel
theorem kd_O_isForeign_54 : decode kc_O_isForeign 54 = .ok (.iconst 0, 1) := by decide +kernel
theorem kd_O_isForeign_55 : decode kc_O_isForeign 55 = .ok (.ireturn, 1) := by decide +kernel
theorem kd_O_meetsChange_0 : decode kc_O_meetsChange 0 = .ok (.iconst 0, 1) := by decide +kernel
theorem kd_O_meetsChange_1 : decode kc_O_meetsChange 1 = .ok (.istore 5, 2) := by decide +kernel
theorem kd_O_meetsChange_3 : decode kc_O_meetsChange 3 = .ok (.iload 5, 2) := by decide +kernel
theorem kd_O_meetsChange_5 : decode kc_O_meetsChange 5 = .ok (.aload_n 0, 1) := by decide +kernel
theorem kd_O_meetsChange_6 : decode kc_O_meetsChange 6 = .ok (.getfield 15, 3) := by decide +kernel
theorem kd_O_meetsChange_9 : decode kc_O_meetsChange 9 = .ok (.iload_n 1, 1) := by decide +kernel
theorem kd_O_meetsChange_10 : decode kc_O_meetsChange 10 = .ok (.iaload, 1) := by decide +kernel
theorem kd_O_meetsChange_11 : decode kc_O_meetsChange 11 = .ok (.if_icmp .ge 44, 3) := by decide +kernel
theorem kd_O_meetsChange_14 : decode kc_O_meetsChange 14 = .ok (.aload_n 0, 1) := by decide +kernel
theorem kd_O_meetsChange_15 : decode kc_O_meetsChange 15 = .ok (.iload_n 1, 1) := by decide +kernel
theorem kd_O_meetsChange_16 : decode kc_O_meetsChange 16 = .ok (.iload 5, 2) := by decide +kernel
theorem kd_O_meetsChange_18 : decode kc_O_meetsChange 18 = .ok (.iload_n 2, 1) := by decide +kernel
theorem kd_O_meetsChange_19 : decode kc_O_meetsChange 19 = .ok (.iload_n 3, 1) := by decide +kernel
theorem kd_O_meetsChange_20 : decode kc_O_meetsChange 20 = .ok (.invokevirtual 71, 3) := by decide +kernel
theorem kd_O_meetsChange_23 : decode kc_O_meetsChange 23 = .ok (.ifCond .eq 26, 3) := by decide +kernel
theorem kd_O_meetsChange_26 : decode kc_O_meetsChange 26 = .ok (.aload_n 0, 1) := by decide +kernel
theorem kd_O_meetsChange_27 : decode kc_O_meetsChange 27 = .ok (.getfield 32, 3) := by decide +kernel
theorem kd_O_meetsChange_30 : decode kc_O_meetsChange 30 = .ok (.aload_n 0, 1) := by decide +kernel
theorem kd_O_meetsChange_31 : decode kc_O_meetsChange 31 = .ok (.getfield 20, 3) := by decide +kernel
theorem kd_O_meetsChange_34 : decode kc_O_meetsChange 34 = .ok (.iload_n 1, 1) := by decide +kernel
theorem kd_O_meetsChange_35 : decode kc_O_meetsChange 35 = .ok (.aaload, 1) := by decide +kernel
theorem kd_O_meetsChange_36 : decode kc_O_meetsChange 36 = .ok (.iload 5, 2) := by decide +kernel
theorem kd_O_meetsChange_38 : decode kc_O_meetsChange 38 = .ok (.iaload, 1) := by decide +kernel
theorem kd_O_meetsChange_39 : decode kc_O_meetsChange 39 = .ok (.invokevirtual 50, 3) := by decide +kernel
theorem kd_O_meetsChange_42 : decode kc_O_meetsChange 42 = .ok (.iload 4, 2) := by decide +kernel
theorem kd_O_meetsChange_44 : decode kc_O_meetsChange 44 = .ok (.if_icmp .ne 5, 3) := by decide +kernel
theorem kd_O_meetsChange_47 : decode kc_O_meetsChange 47 = .ok (.iconst 0, 1) := by decide +kernel
theorem kd_O_meetsChange_48 : decode kc_O_meetsChange 48 = .ok (.ireturn, 1) := by decide +kernel
theorem kd_O_meetsChange_49 : decode kc_O_meetsChange 49 = .ok (.iinc 5 1, 3) := by decide +kernel
theorem kd_O_meetsChange_52 : decode kc_O_meetsChange 52 = .ok (.goto (-49), 3) := by decide +kernel
theorem kd_O_meetsChange_55 : decode kc_O_meetsChange 55 = .ok (.iconst 1, 1) := by decide +kernel
theorem kd_O_meetsChange_56 : decode kc_O_meetsChange 56 = .ok (.ireturn, 1) := by decide +kernel
theorem kd_O_meetsShare_0 : decode kc_O_meetsShare 0 = .ok (.lconst 0, 1) := by decide +kernel
theorem kd_O_meetsShare_1 : decode kc_O_meetsShare 1 = .ok (.lstore 5, 2) := by decide +kernel
theorem kd_O_meetsShare_3 : decode kc_O_meetsShare 3 = .ok (.lconst 0, 1) := by decide +kernel
theorem kd_O_meetsShare_4 : decode kc_O_meetsShare 4 = .ok (.lstore 7, 2) := by decide +kernel
theorem kd_O_meetsShare_6 : decode kc_O_meetsShare 6 = .ok (.iconst 0, 1) := by decide +kernel
theorem kd_O_meetsShare_7 : decode kc_O_meetsShare 7 = .ok (.istore 9, 2) := by decide +kernel
theorem kd_O_meetsShare_9 : decode kc_O_meetsShare 9 = .ok (.iload 9, 2) := by decide +kernel
theorem kd_O_meetsShare_11 : decode kc_O_meetsShare 11 = .ok (.aload_n 0, 1) := by decide +kernel
theorem kd_O_meetsShare_12 : decode kc_O_meetsShare 12 = .ok (.getfield 15, 3) := by decide +kernel
theorem kd_O_meetsShare_15 : decode kc_O_meetsShare 15 = .ok (.iload_n 1, 1) := by decide +kernel
theorem kd_O_meetsShare_16 : decode kc_O_meetsShare 16 = .ok (.iaload, 1) := by decide +kernel
theorem kd_O_meetsShare_17 : decode kc_O_meetsShare 17 = .ok (.if_icmp .ge 48, 3) := by decide +kernel
theorem kd_O_meetsShare_20 : decode kc_O_meetsShare 20 = .ok (.aload_n 0, 1) := by decide +kernel
theorem kd_O_meetsShare_21 : decode kc_O_meetsShare 21 = .ok (.getfield 23, 3) := by decide +kernel
theorem kd_O_meetsShare_24 : decode kc_O_meetsShare 24 = .ok (.iload_n 1, 1) := by decide +kernel
theorem kd_O_meetsShare_25 : decode kc_O_meetsShare 25 = .ok (.aaload, 1) := by decide +kernel
theorem kd_O_meetsShare_26 : decode kc_O_meetsShare 26 = .ok (.iload 9, 2) := by decide +kernel
theorem kd_O_meetsShare_28 : decode kc_O_meetsShare 28 = .ok (.iaload, 1) := by decide +kernel
theorem kd_O_meetsShare_29 : decode kc_O_meetsShare 29 = .ok (.istore 10, 2) := by decide +kernel
theorem kd_O_meetsShare_31 : decode kc_O_meetsShare 31 = .ok (.lload 7, 2) := by decide +kernel
theorem kd_O_meetsShare_33 : decode kc_O_meetsShare 33 = .ok (.iload 10, 2) := by decide +kernel
theorem kd_O_meetsShare_35 : decode kc_O_meetsShare 35 = .ok (.i2l, 1) := by decide +kernel
theorem kd_O_meetsShare_36 : decode kc_O_meetsShare 36 = .ok (.ladd, 1) := by decide +kernel
theorem kd_O_meetsShare_37 : decode kc_O_meetsShare 37 = .ok (.lstore 7, 2) := by decide +kernel
theorem kd_O_meetsShare_39 : decode kc_O_meetsShare 39 = .ok (.aload_n 0, 1) := by decide +kernel
theorem kd_O_meetsShare_40 : decode kc_O_meetsShare 40 = .ok (.iload_n 1, 1) := by decide +kernel
theorem kd_O_meetsShare_41 : decode kc_O_meetsShare 41 = .ok (.iload 9, 2) := by decide +kernel
theorem kd_O_meetsShare_43 : decode kc_O_meetsShare 43 = .ok (.iload_n 2, 1) := by decide +kernel
theorem kd_O_meetsShare_44 : decode kc_O_meetsShare 44 = .ok (.iload_n 3, 1) := by decide +kernel
theorem kd_O_meetsShare_45 : decode kc_O_meetsShare 45 = .ok (.invokevirtual 71, 3) := by decide +kernel
theorem kd_O_meetsShare_48 : decode kc_O_meetsShare 48 = .ok (.ifCond .eq 11, 3) := by decide +kernel
theorem kd_O_meetsShare_51 : decode kc_O_meetsShare 51 = .ok (.lload 5, 2) := by decide +kernel
theorem kd_O_meetsShare_53 : decode kc_O_meetsShare 53 = .ok (.iload 10, 2) := by decide +kernel
theorem kd_O_meetsShare_55 : decode kc_O_meetsShare 55 = .ok (.i2l, 1) := by decide +kernel
theorem kd_O_meetsShare_56 : decode kc_O_meetsShare 56 = .ok (.ladd, 1) := by decide +kernel
theorem kd_O_meetsShare_57 : decode kc_O_meetsShare 57 = .ok (.lstore 5, 2) := by decide +kernel
theorem kd_O_meetsShare_59 : decode kc_O_meetsShare 59 = .ok (.iinc 9 1, 3) := by decide +kernel
theorem kd_O_meetsShare_62 : decode kc_O_meetsShare 62 = .ok (.goto (-53), 3) := by decide +kernel
theorem kd_O_meetsShare_65 : decode kc_O_meetsShare 65 = .ok (.ldc2_w 74, 3) := by decide +kernel
theorem kd_O_meetsShare_68 : decode kc_O_meetsShare 68 = .ok (.lload 5, 2) := by decide +kernel
theorem kd_O_meetsShare_70 : decode kc_O_meetsShare 70 = .ok (.lmul, 1) := by decide +kernel
theorem kd_O_meetsShare_71 : decode kc_O_meetsShare 71 = .ok (.iload 4, 2) := by decide +kernel
theorem kd_O_meetsShare_73 : decode kc_O_meetsShare 73 = .ok (.i2l, 1) := by decide +kernel
theorem kd_O_meetsShare_74 : decode kc_O_meetsShare 74 = .ok (.lload 7, 2) := by decide +kernel
theorem kd_O_meetsShare_76 : decode kc_O_meetsShare 76 = .ok (.lmul, 1) := by decide +kernel
theorem kd_O_meetsShare_77 : decode kc_O_meetsShare 77 = .ok (.lcmp, 1) := by decide +kernel
theorem kd_O_meetsShare_78 : decode kc_O_meetsShare 78 = .ok (.ifCond .gt 7, 3) := by decide +kernel
theorem kd_O_meetsShare_81 : decode kc_O_meetsShare 81 = .ok (.iconst 1, 1) := by decide +kernel
theorem kd_O_meetsShare_82 : decode kc_O_meetsShare 82 = .ok (.goto 4, 3) := by decide +kernel
theorem kd_O_meetsShare_85 : decode kc_O_meetsShare 85 = .ok (.iconst 0, 1) := by decide +kernel
theorem kd_O_meetsShare_86 : decode kc_O_meetsShare 86 = .ok (.ireturn, 1) := by decide +kernel
theorem kd_O_meetsRule_0 : decode kc_O_meetsRule 0 = .ok (.aload_n 0, 1) := by decide +kernel
theorem kd_O_meetsRule_1 : decode kc_O_meetsRule 1 = .ok (.getfield 15, 3) := by decide +kernel
theorem kd_O_meetsRule_4 : decode kc_O_meetsRule 4 = .ok (.iload_n 1, 1) := by decide +kernel
theorem kd_O_meetsRule_5 : decode kc_O_meetsRule 5 = .ok (.iaload, 1) := by decide +kernel
theorem kd_O_meetsRule_6 : decode kc_O_meetsRule 6 = .ok (.ifCond .ne 7, 3) := by decide +kernel
theorem kd_O_meetsRule_9 : decode kc_O_meetsRule 9 = .ok (.iconst (-1), 1) := by decide +kernel
theorem kd_O_meetsRule_10 : decode kc_O_meetsRule 10 = .ok (.goto 11, 3) := by decide +kernel
theorem kd_O_meetsRule_13 : decode kc_O_meetsRule 13 = .ok (.aload_n 0, 1) := by decide +kernel
theorem kd_O_meetsRule_14 : decode kc_O_meetsRule 14 = .ok (.getfield 32, 3) := by decide +kernel
theorem kd_O_meetsRule_17 : decode kc_O_meetsRule 17 = .ok (.iload_n 1, 1) := by decide +kernel
theorem kd_O_meetsRule_18 : decode kc_O_meetsRule 18 = .ok (.invokevirtual 50, 3) := by decide +kernel
theorem kd_O_meetsRule_21 : decode kc_O_meetsRule 21 = .ok (.istore 4, 2) := by decide +kernel
theorem kd_O_meetsRule_23 : decode kc_O_meetsRule 23 = .ok (.iload 4, 2) := by decide +kernel
theorem kd_O_meetsRule_25 : decode kc_O_meetsRule 25 = .ok (.iconst (-1), 1) := by decide +kernel
theorem kd_O_meetsRule_26 : decode kc_O_meetsRule 26 = .ok (.if_icmp .ne 7, 3) := by decide +kernel
theorem kd_O_meetsRule_29 : decode kc_O_meetsRule 29 = .ok (.iconst (-1), 1) := by decide +kernel
theorem kd_O_meetsRule_30 : decode kc_O_meetsRule 30 = .ok (.goto 12, 3) := by decide +kernel
theorem kd_O_meetsRule_33 : decode kc_O_meetsRule 33 = .ok (.aload_n 0, 1) := by decide +kernel
theorem kd_O_meetsRule_34 : decode kc_O_meetsRule 34 = .ok (.getfield 32, 3) := by decide +kernel
theorem kd_O_meetsRule_37 : decode kc_O_meetsRule 37 = .ok (.iload 4, 2) := by decide +kernel
theorem kd_O_meetsRule_39 : decode kc_O_meetsRule 39 = .ok (.invokevirtual 55, 3) := by decide +kernel
theorem kd_O_meetsRule_42 : decode kc_O_meetsRule 42 = .ok (.istore 5, 2) := by decide +kernel
theorem kd_O_meetsRule_44 : decode kc_O_meetsRule 44 = .ok (.iload 5, 2) := by decide +kernel
