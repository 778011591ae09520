theorem kd_O_meetsRule_46 : decode kc_O_meetsRule 46 = .ok (.iconst (-1), 1) := by decide +kernel
theorem kd_O_meetsRule_47 : decode kc_O_meetsRule 47 = .ok (.if_icmp .ne 5, 3) := by decide +kernel
theorem kd_O_meetsRule_50 : decode kc_O_meetsRule 50 = .ok (.iconst 0, 1) := by decide +kernel
theorem kd_O_meetsRule_51 : decode kc_O_meetsRule 51 = .ok (.ireturn, 1) := by decide +kernel
theorem kd_O_meetsRule_52 : decode kc_O_meetsRule 52 = .ok (.aload_n 0, 1) := by decide +kernel
theorem kd_O_meetsRule_53 : decode kc_O_meetsRule 53 = .ok (.getfield 32, 3) := by decide +kernel
theorem kd_O_meetsRule_56 : decode kc_O_meetsRule 56 = .ok (.getfield 58, 3) := by decide +kernel
theorem kd_O_meetsRule_59 : decode kc_O_meetsRule 59 = .ok (.iload 5, 2) := by decide +kernel
theorem kd_O_meetsRule_61 : decode kc_O_meetsRule 61 = .ok (.iaload, 1) := by decide +kernel
theorem kd_O_meetsRule_62 : decode kc_O_meetsRule 62 = .ok (.ifCond .ne 13, 3) := by decide +kernel
theorem kd_O_meetsRule_65 : decode kc_O_meetsRule 65 = .ok (.aload_n 0, 1) := by decide +kernel
theorem kd_O_meetsRule_66 : decode kc_O_meetsRule 66 = .ok (.iload_n 1, 1) := by decide +kernel
theorem kd_O_meetsRule_67 : decode kc_O_meetsRule 67 = .ok (.iload_n 2, 1) := by decide +kernel
theorem kd_O_meetsRule_68 : decode kc_O_meetsRule 68 = .ok (.iload_n 3, 1) := by decide +kernel
theorem kd_O_meetsRule_69 : decode kc_O_meetsRule 69 = .ok (.iload 4, 2) := by decide +kernel
theorem kd_O_meetsRule_71 : decode kc_O_meetsRule 71 = .ok (.invokevirtual 61, 3) := by decide +kernel
theorem kd_O_meetsRule_74 : decode kc_O_meetsRule 74 = .ok (.ireturn, 1) := by decide +kernel
theorem kd_O_meetsRule_75 : decode kc_O_meetsRule 75 = .ok (.aload_n 0, 1) := by decide +kernel
theorem kd_O_meetsRule_76 : decode kc_O_meetsRule 76 = .ok (.iload_n 1, 1) := by decide +kernel
theorem kd_O_meetsRule_77 : decode kc_O_meetsRule 77 = .ok (.iload_n 2, 1) := by decide +kernel
theorem kd_O_meetsRule_78 : decode kc_O_meetsRule 78 = .ok (.iload_n 3, 1) := by decide +kernel
theorem kd_O_meetsRule_79 : decode kc_O_meetsRule 79 = .ok (.aload_n 0, 1) := by decide +kernel
theorem kd_O_meetsRule_80 : decode kc_O_meetsRule 80 = .ok (.getfield 32, 3) := by decide +kernel
theorem kd_O_meetsRule_83 : decode kc_O_meetsRule 83 = .ok (.getfield 65, 3) := by decide +kernel
theorem kd_O_meetsRule_86 : decode kc_O_meetsRule 86 = .ok (.iload 5, 2) := by decide +kernel
theorem kd_O_meetsRule_88 : decode kc_O_meetsRule 88 = .ok (.iaload, 1) := by decide +kernel
theorem kd_O_meetsRule_89 : decode kc_O_meetsRule 89 = .ok (.invokevirtual 68, 3) := by decide +kernel
theorem kd_O_meetsRule_92 : decode kc_O_meetsRule 92 = .ok (.ireturn, 1) := by decide +kernel
theorem kd_O_isMadeIn_0 : decode kc_O_isMadeIn 0 = .ok (.aload_n 0, 1) := by decide +kernel
theorem kd_O_isMadeIn_1 : decode kc_O_isMadeIn 1 = .ok (.getfield 29, 3) := by decide +kernel
theorem kd_O_isMadeIn_4 : decode kc_O_isMadeIn 4 = .ok (.iload_n 1, 1) := by decide +kernel
theorem kd_O_isMadeIn_5 : decode kc_O_isMadeIn 5 = .ok (.iaload, 1) := by decide +kernel
theorem kd_O_isMadeIn_6 : decode kc_O_isMadeIn 6 = .ok (.iconst 1, 1) := by decide +kernel
theorem kd_O_isMadeIn_7 : decode kc_O_isMadeIn 7 = .ok (.iload_n 1, 1) := by decide +kernel
theorem kd_O_isMadeIn_8 : decode kc_O_isMadeIn 8 = .ok (.ishl, 1) := by decide +kernel
theorem kd_O_isMadeIn_9 : decode kc_O_isMadeIn 9 = .ok (.ior, 1) := by decide +kernel
theorem kd_O_isMadeIn_10 : decode kc_O_isMadeIn 10 = .ok (.istore_n 3, 1) := by decide +kernel
theorem kd_O_isMadeIn_11 : decode kc_O_isMadeIn 11 = .ok (.iconst 0, 1) := by decide +kernel
theorem kd_O_isMadeIn_12 : decode kc_O_isMadeIn 12 = .ok (.istore 4, 2) := by decide +kernel
theorem kd_O_isMadeIn_14 : decode kc_O_isMadeIn 14 = .ok (.iconst 0, 1) := by decide +kernel
theorem kd_O_isMadeIn_15 : decode kc_O_isMadeIn 15 = .ok (.istore 5, 2) := by decide +kernel
theorem kd_O_isMadeIn_17 : decode kc_O_isMadeIn 17 = .ok (.iload 5, 2) := by decide +kernel
theorem kd_O_isMadeIn_19 : decode kc_O_isMadeIn 19 = .ok (.aload_n 0, 1) := by decide +kernel
theorem kd_O_isMadeIn_20 : decode kc_O_isMadeIn 20 = .ok (.getfield 29, 3) := by decide +kernel
theorem kd_O_isMadeIn_23 : decode kc_O_isMadeIn 23 = .ok (.iload_n 1, 1) := by decide +kernel
theorem kd_O_isMadeIn_24 : decode kc_O_isMadeIn 24 = .ok (.iaload, 1) := by decide +kernel
theorem kd_O_isMadeIn_25 : decode kc_O_isMadeIn 25 = .ok (.invokestatic 40, 3) := by decide +kernel
theorem kd_O_isMadeIn_28 : decode kc_O_isMadeIn 28 = .ok (.if_icmp .gt 70, 3) := by decide +kernel
theorem kd_O_isMadeIn_31 : decode kc_O_isMadeIn 31 = .ok (.iconst 0, 1) := by decide +kernel
theorem kd_O_isMadeIn_32 : decode kc_O_isMadeIn 32 = .ok (.istore 6, 2) := by decide +kernel
theorem kd_O_isMadeIn_34 : decode kc_O_isMadeIn 34 = .ok (.iload 6, 2) := by decide +kernel
theorem kd_O_isMadeIn_36 : decode kc_O_isMadeIn 36 = .ok (.bipush 16, 2) := by decide +kernel
theorem kd_O_isMadeIn_38 : decode kc_O_isMadeIn 38 = .ok (.if_icmp .ge 54, 3) := by decide +kernel
theorem kd_O_isMadeIn_41 : decode kc_O_isMadeIn 41 = .ok (.iload_n 3, 1) := by decide +kernel
theorem kd_O_isMadeIn_42 : decode kc_O_isMadeIn 42 = .ok (.iload 6, 2) := by decide +kernel
theorem kd_O_isMadeIn_44 : decode kc_O_isMadeIn 44 = .ok (.invokestatic 36, 3) := by decide +kernel
theorem kd_O_isMadeIn_47 : decode kc_O_isMadeIn 47 = .ok (.ifCond .eq 39, 3) := by decide +kernel
theorem kd_O_isMadeIn_50 : decode kc_O_isMadeIn 50 = .ok (.aload_n 0, 1) := by decide +kernel
theorem kd_O_isMadeIn_51 : decode kc_O_isMadeIn 51 = .ok (.getfield 29, 3) := by decide +kernel
theorem kd_O_isMadeIn_54 : decode kc_O_isMadeIn 54 = .ok (.iload 6, 2) := by decide +kernel
theorem kd_O_isMadeIn_56 : decode kc_O_isMadeIn 56 = .ok (.iaload, 1) := by decide +kernel
theorem kd_O_isMadeIn_57 : decode kc_O_isMadeIn 57 = .ok (.invokestatic 40, 3) := by decide +kernel
theorem kd_O_isMadeIn_60 : decode kc_O_isMadeIn 60 = .ok (.iload 5, 2) := by decide +kernel
theorem kd_O_isMadeIn_62 : decode kc_O_isMadeIn 62 = .ok (.if_icmp .ne 24, 3) := by decide +kernel
theorem kd_O_isMadeIn_65 : decode kc_O_isMadeIn 65 = .ok (.aload_n 0, 1) := by decide +kernel
theorem kd_O_isMadeIn_66 : decode kc_O_isMadeIn 66 = .ok (.iload 6, 2) := by decide +kernel
theorem kd_O_isMadeIn_68 : decode kc_O_isMadeIn 68 = .ok (.iload_n 2, 1) := by decide +kernel
theorem kd_O_isMadeIn_69 : decode kc_O_isMadeIn 69 = .ok (.iload 4, 2) := by decide +kernel
theorem kd_O_isMadeIn_71 : decode kc_O_isMadeIn 71 = .ok (.invokevirtual 46, 3) := by decide +kernel
theorem kd_O_isMadeIn_74 : decode kc_O_isMadeIn 74 = .ok (.ifCond .eq 12, 3) := by decide +kernel
theorem kd_O_isMadeIn_77 : decode kc_O_isMadeIn 77 = .ok (.iload 4, 2) := by decide +kernel
theorem kd_O_isMadeIn_79 : decode kc_O_isMadeIn 79 = .ok (.iconst 1, 1) := by decide +kernel
theorem kd_O_isMadeIn_80 : decode kc_O_isMadeIn 80 = .ok (.iload 6, 2) := by decide +kernel
theorem kd_O_isMadeIn_82 : decode kc_O_isMadeIn 82 = .ok (.ishl, 1) := by decide +kernel
theorem kd_O_isMadeIn_83 : decode kc_O_isMadeIn 83 = .ok (.ior, 1) := by decide +kernel
theorem kd_O_isMadeIn_84 : decode kc_O_isMadeIn 84 = .ok (.istore 4, 2) := by decide +kernel
theorem kd_O_isMadeIn_86 : decode kc_O_isMadeIn 86 = .ok (.iinc 6 1, 3) := by decide +kernel
theorem kd_O_isMadeIn_89 : decode kc_O_isMadeIn 89 = .ok (.goto (-55), 3) := by decide +kernel
theorem kd_O_isMadeIn_92 : decode kc_O_isMadeIn 92 = .ok (.iinc 5 1, 3) := by decide +kernel
theorem kd_O_isMadeIn_95 : decode kc_O_isMadeIn 95 = .ok (.goto (-78), 3) := by decide +kernel
theorem kd_O_isMadeIn_98 : decode kc_O_isMadeIn 98 = .ok (.iload 4, 2) := by decide +kernel
theorem kd_O_isMadeIn_100 : decode kc_O_isMadeIn 100 = .ok (.iload_n 1, 1) := by decide +kernel
theorem kd_O_isMadeIn_101 : decode kc_O_isMadeIn 101 = .ok (.invokestatic 36, 3) := by decide +kernel
theorem kd_O_isMadeIn_104 : decode kc_O_isMadeIn 104 = .ok (.ireturn, 1) := by decide +kernel
