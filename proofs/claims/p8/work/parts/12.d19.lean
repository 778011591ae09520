theorem kd_B_accept_91 : decode kc_B_accept 91 = .ok (.invokevirtual 228, 3) := by decide +kernel
theorem kd_B_accept_94 : decode kc_B_accept 94 = .ok (.aload_n 0, 1) := by decide +kernel
theorem kd_B_accept_95 : decode kc_B_accept 95 = .ok (.getfield 42, 3) := by decide +kernel
theorem kd_B_accept_98 : decode kc_B_accept 98 = .ok (.getfield 177, 3) := by decide +kernel
theorem kd_B_accept_101 : decode kc_B_accept 101 = .ok (.iload_n 1, 1) := by decide +kernel
theorem kd_B_accept_102 : decode kc_B_accept 102 = .ok (.iconst 1, 1) := by decide +kernel
theorem kd_B_accept_103 : decode kc_B_accept 103 = .ok (.bastore, 1) := by decide +kernel
theorem kd_B_accept_104 : decode kc_B_accept 104 = .ok (.aload_n 0, 1) := by decide +kernel
theorem kd_B_accept_105 : decode kc_B_accept 105 = .ok (.iload_n 1, 1) := by decide +kernel
theorem kd_B_accept_106 : decode kc_B_accept 106 = .ok (.invokevirtual 231, 3) := by decide +kernel
theorem kd_B_accept_109 : decode kc_B_accept 109 = .ok (.aload_n 0, 1) := by decide +kernel
theorem kd_B_accept_110 : decode kc_B_accept 110 = .ok (.getfield 42, 3) := by decide +kernel
theorem kd_B_accept_113 : decode kc_B_accept 113 = .ok (.iload_n 1, 1) := by decide +kernel
theorem kd_B_accept_114 : decode kc_B_accept 114 = .ok (.invokevirtual 234, 3) := by decide +kernel
theorem kd_B_accept_117 : decode kc_B_accept 117 = .ok (.lreturn, 1) := by decide +kernel
theorem kd_B_amend_0 : decode kc_B_amend 0 = .ok (.aload_n 0, 1) := by decide +kernel
theorem kd_B_amend_1 : decode kc_B_amend 1 = .ok (.iload_n 1, 1) := by decide +kernel
theorem kd_B_amend_2 : decode kc_B_amend 2 = .ok (.iload_n 2, 1) := by decide +kernel
theorem kd_B_amend_3 : decode kc_B_amend 3 = .ok (.invokevirtual 192, 3) := by decide +kernel
theorem kd_B_amend_6 : decode kc_B_amend 6 = .ok (.invokestatic 73, 3) := by decide +kernel
theorem kd_B_amend_9 : decode kc_B_amend 9 = .ok (.iload_n 3, 1) := by decide +kernel
theorem kd_B_amend_10 : decode kc_B_amend 10 = .ok (.iload 4, 2) := by decide +kernel
theorem kd_B_amend_12 : decode kc_B_amend 12 = .ok (.invokestatic 174, 3) := by decide +kernel
theorem kd_B_amend_15 : decode kc_B_amend 15 = .ok (.invokestatic 73, 3) := by decide +kernel
theorem kd_B_amend_18 : decode kc_B_amend 18 = .ok (.aload_n 0, 1) := by decide +kernel
theorem kd_B_amend_19 : decode kc_B_amend 19 = .ok (.getfield 42, 3) := by decide +kernel
theorem kd_B_amend_22 : decode kc_B_amend 22 = .ok (.getfield 177, 3) := by decide +kernel
theorem kd_B_amend_25 : decode kc_B_amend 25 = .ok (.iload_n 1, 1) := by decide +kernel
theorem kd_B_amend_26 : decode kc_B_amend 26 = .ok (.baload, 1) := by decide +kernel
theorem kd_B_amend_27 : decode kc_B_amend 27 = .ok (.invokestatic 81, 3) := by decide +kernel
theorem kd_B_amend_30 : decode kc_B_amend 30 = .ok (.aload_n 0, 1) := by decide +kernel
theorem kd_B_amend_31 : decode kc_B_amend 31 = .ok (.iload_n 1, 1) := by decide +kernel
theorem kd_B_amend_32 : decode kc_B_amend 32 = .ok (.invokevirtual 238, 3) := by decide +kernel
theorem kd_B_amend_35 : decode kc_B_amend 35 = .ok (.ifCond .ne 7, 3) := by decide +kernel
theorem kd_B_amend_38 : decode kc_B_amend 38 = .ok (.iconst 1, 1) := by decide +kernel
theorem kd_B_amend_39 : decode kc_B_amend 39 = .ok (.goto 4, 3) := by decide +kernel
theorem kd_B_amend_42 : decode kc_B_amend 42 = .ok (.iconst 0, 1) := by decide +kernel
theorem kd_B_amend_43 : decode kc_B_amend 43 = .ok (.invokestatic 81, 3) := by decide +kernel
theorem kd_B_amend_46 : decode kc_B_amend 46 = .ok (.aload_n 0, 1) := by decide +kernel
theorem kd_B_amend_47 : decode kc_B_amend 47 = .ok (.getfield 51, 3) := by decide +kernel
theorem kd_B_amend_50 : decode kc_B_amend 50 = .ok (.iload_n 1, 1) := by decide +kernel
theorem kd_B_amend_51 : decode kc_B_amend 51 = .ok (.invokevirtual 209, 3) := by decide +kernel
theorem kd_B_amend_54 : decode kc_B_amend 54 = .ok (.invokestatic 212, 3) := by decide +kernel
theorem kd_B_amend_57 : decode kc_B_amend 57 = .ok (.aload_n 0, 1) := by decide +kernel
theorem kd_B_amend_58 : decode kc_B_amend 58 = .ok (.getfield 42, 3) := by decide +kernel
theorem kd_B_amend_61 : decode kc_B_amend 61 = .ok (.iload_n 1, 1) := by decide +kernel
theorem kd_B_amend_62 : decode kc_B_amend 62 = .ok (.invokevirtual 234, 3) := by decide +kernel
theorem kd_B_amend_65 : decode kc_B_amend 65 = .ok (.lstore 5, 2) := by decide +kernel
theorem kd_B_amend_67 : decode kc_B_amend 67 = .ok (.aload_n 0, 1) := by decide +kernel
theorem kd_B_amend_68 : decode kc_B_amend 68 = .ok (.getfield 42, 3) := by decide +kernel
theorem kd_B_amend_71 : decode kc_B_amend 71 = .ok (.iload_n 1, 1) := by decide +kernel
theorem kd_B_amend_72 : decode kc_B_amend 72 = .ok (.iload_n 2, 1) := by decide +kernel
theorem kd_B_amend_73 : decode kc_B_amend 73 = .ok (.invokestatic 199, 3) := by decide +kernel
theorem kd_B_amend_76 : decode kc_B_amend 76 = .ok (.iload_n 3, 1) := by decide +kernel
theorem kd_B_amend_77 : decode kc_B_amend 77 = .ok (.iload 4, 2) := by decide +kernel
theorem kd_B_amend_79 : decode kc_B_amend 79 = .ok (.invokevirtual 241, 3) := by decide +kernel
theorem kd_B_amend_82 : decode kc_B_amend 82 = .ok (.aload_n 0, 1) := by decide +kernel
theorem kd_B_amend_83 : decode kc_B_amend 83 = .ok (.getfield 51, 3) := by decide +kernel
theorem kd_B_amend_86 : decode kc_B_amend 86 = .ok (.iload_n 1, 1) := by decide +kernel
theorem kd_B_amend_87 : decode kc_B_amend 87 = .ok (.invokevirtual 245, 3) := by decide +kernel
theorem kd_B_amend_90 : decode kc_B_amend 90 = .ok (.aload_n 0, 1) := by decide +kernel
theorem kd_B_amend_91 : decode kc_B_amend 91 = .ok (.getfield 51, 3) := by decide +kernel
theorem kd_B_amend_94 : decode kc_B_amend 94 = .ok (.iload_n 1, 1) := by decide +kernel
theorem kd_B_amend_95 : decode kc_B_amend 95 = .ok (.invokevirtual 228, 3) := by decide +kernel
theorem kd_B_amend_98 : decode kc_B_amend 98 = .ok (.aload_n 0, 1) := by decide +kernel
theorem kd_B_amend_99 : decode kc_B_amend 99 = .ok (.iload_n 1, 1) := by decide +kernel
theorem kd_B_amend_100 : decode kc_B_amend 100 = .ok (.invokevirtual 248, 3) := by decide +kernel
theorem kd_B_amend_103 : decode kc_B_amend 103 = .ok (.aload_n 0, 1) := by decide +kernel
theorem kd_B_amend_104 : decode kc_B_amend 104 = .ok (.getfield 42, 3) := by decide +kernel
theorem kd_B_amend_107 : decode kc_B_amend 107 = .ok (.iload_n 1, 1) := by decide +kernel
theorem kd_B_amend_108 : decode kc_B_amend 108 = .ok (.invokevirtual 234, 3) := by decide +kernel
theorem kd_B_amend_111 : decode kc_B_amend 111 = .ok (.lload 5, 2) := by decide +kernel
theorem kd_B_amend_113 : decode kc_B_amend 113 = .ok (.lsub, 1) := by decide +kernel
theorem kd_B_amend_114 : decode kc_B_amend 114 = .ok (.lreturn, 1) := by decide +kernel
theorem kd_B_release_0 : decode kc_B_release 0 = .ok (.iload_n 1, 1) := by decide +kernel
theorem kd_B_release_1 : decode kc_B_release 1 = .ok (.invokestatic 105, 3) := by decide +kernel
theorem kd_B_release_4 : decode kc_B_release 4 = .ok (.invokestatic 73, 3) := by decide +kernel
theorem kd_B_release_7 : decode kc_B_release 7 = .ok (.iload_n 2, 1) := by decide +kernel
theorem kd_B_release_8 : decode kc_B_release 8 = .ok (.iconst 1, 1) := by decide +kernel
theorem kd_B_release_9 : decode kc_B_release 9 = .ok (.sipush 1000, 3) := by decide +kernel
theorem kd_B_release_12 : decode kc_B_release 12 = .ok (.invokestatic 94, 3) := by decide +kernel
theorem kd_B_release_15 : decode kc_B_release 15 = .ok (.invokestatic 73, 3) := by decide +kernel
theorem kd_B_release_18 : decode kc_B_release 18 = .ok (.aload_n 0, 1) := by decide +kernel
theorem kd_B_release_19 : decode kc_B_release 19 = .ok (.getfield 58, 3) := by decide +kernel
theorem kd_B_release_22 : decode kc_B_release 22 = .ok (.iload_n 1, 1) := by decide +kernel
theorem kd_B_release_23 : decode kc_B_release 23 = .ok (.iconst 1, 1) := by decide +kernel
theorem kd_B_release_24 : decode kc_B_release 24 = .ok (.invokevirtual 251, 3) := by decide +kernel
theorem kd_B_release_27 : decode kc_B_release 27 = .ok (.iload_n 2, 1) := by decide +kernel
theorem kd_B_release_28 : decode kc_B_release 28 = .ok (.if_icmp .lt 7, 3) := by decide +kernel
theorem kd_B_release_31 : decode kc_B_release 31 = .ok (.iconst 1, 1) := by decide +kernel
theorem kd_B_release_32 : decode kc_B_release 32 = .ok (.goto 4, 3) := by decide +kernel
theorem kd_B_release_35 : decode kc_B_release 35 = .ok (.iconst 0, 1) := by decide +kernel
theorem kd_B_release_36 : decode kc_B_release 36 = .ok (.invokestatic 81, 3) := by decide +kernel
theorem kd_B_release_39 : decode kc_B_release 39 = .ok (.aload_n 0, 1) := by decide +kernel
theorem kd_B_release_40 : decode kc_B_release 40 = .ok (.getfield 58, 3) := by decide +kernel
theorem kd_B_release_43 : decode kc_B_release 43 = .ok (.iload_n 1, 1) := by decide +kernel
theorem kd_B_release_44 : decode kc_B_release 44 = .ok (.iload_n 2, 1) := by decide +kernel
theorem kd_B_release_45 : decode kc_B_release 45 = .ok (.iconst 1, 1) := by decide +kernel
theorem kd_B_release_46 : decode kc_B_release 46 = .ok (.invokevirtual 255, 3) := by decide +kernel
theorem kd_B_release_49 : decode kc_B_release 49 = .ok (.lstore_n 3, 1) := by decide +kernel
theorem kd_B_release_50 : decode kc_B_release 50 = .ok (.aload_n 0, 1) := by decide +kernel
theorem kd_B_release_51 : decode kc_B_release 51 = .ok (.getfield 65, 3) := by decide +kernel
theorem kd_B_release_54 : decode kc_B_release 54 = .ok (.dup, 1) := by decide +kernel
theorem kd_B_release_55 : decode kc_B_release 55 = .ok (.getfield 259, 3) := by decide +kernel
theorem kd_B_release_58 : decode kc_B_release 58 = .ok (.lload_n 3, 1) := by decide +kernel
theorem kd_B_release_59 : decode kc_B_release 59 = .ok (.ladd, 1) := by decide +kernel
theorem kd_B_release_60 : decode kc_B_release 60 = .ok (.putfield 259, 3) := by decide +kernel
theorem kd_B_release_63 : decode kc_B_release 63 = .ok (.aload_n 0, 1) := by decide +kernel
theorem kd_B_release_64 : decode kc_B_release 64 = .ok (.getfield 65, 3) := by decide +kernel
theorem kd_B_release_67 : decode kc_B_release 67 = .ok (.getfield 263, 3) := by decide +kernel
theorem kd_B_release_70 : decode kc_B_release 70 = .ok (.iload_n 1, 1) := by decide +kernel
theorem kd_B_release_71 : decode kc_B_release 71 = .ok (.dup2, 1) := by decide +kernel
theorem kd_B_release_72 : decode kc_B_release 72 = .ok (.iaload, 1) := by decide +kernel
theorem kd_B_release_73 : decode kc_B_release 73 = .ok (.iload_n 2, 1) := by decide +kernel
theorem kd_B_release_74 : decode kc_B_release 74 = .ok (.iadd, 1) := by decide +kernel
theorem kd_B_release_75 : decode kc_B_release 75 = .ok (.iastore, 1) := by decide +kernel
theorem kd_B_release_76 : decode kc_B_release 76 = .ok (.lload_n 3, 1) := by decide +kernel
theorem kd_B_release_77 : decode kc_B_release 77 = .ok (.lreturn, 1) := by decide +kernel
theorem kd_B_export_0 : decode kc_B_export 0 = .ok (.iload_n 1, 1) := by decide +kernel
theorem kd_B_export_1 : decode kc_B_export 1 = .ok (.invokestatic 105, 3) := by decide +kernel
theorem kd_B_export_4 : decode kc_B_export 4 = .ok (.invokestatic 73, 3) := by decide +kernel
theorem kd_B_export_7 : decode kc_B_export 7 = .ok (.iload_n 2, 1) := by decide +kernel
theorem kd_B_export_8 : decode kc_B_export 8 = .ok (.iconst 1, 1) := by decide +kernel
theorem kd_B_export_9 : decode kc_B_export 9 = .ok (.sipush 1000, 3) := by decide +kernel
theorem kd_B_export_12 : decode kc_B_export 12 = .ok (.invokestatic 94, 3) := by decide +kernel
theorem kd_B_export_15 : decode kc_B_export 15 = .ok (.invokestatic 73, 3) := by decide +kernel
theorem kd_B_export_18 : decode kc_B_export 18 = .ok (.aload_n 0, 1) := by decide +kernel
theorem kd_B_export_19 : decode kc_B_export 19 = .ok (.getfield 58, 3) := by decide +kernel
theorem kd_B_export_22 : decode kc_B_export 22 = .ok (.iload_n 1, 1) := by decide +kernel
theorem kd_B_export_23 : decode kc_B_export 23 = .ok (.iconst 0, 1) := by decide +kernel
theorem kd_B_export_24 : decode kc_B_export 24 = .ok (.invokevirtual 251, 3) := by decide +kernel
theorem kd_B_export_27 : decode kc_B_export 27 = .ok (.iload_n 2, 1) := by decide +kernel
theorem kd_B_export_28 : decode kc_B_export 28 = .ok (.if_icmp .lt 7, 3) := by decide +kernel
theorem kd_B_export_31 : decode kc_B_export 31 = .ok (.iconst 1, 1) := by decide +kernel
theorem kd_B_export_32 : decode kc_B_export 32 = .ok (.goto 4, 3) := by decide +kernel
theorem kd_B_export_35 : decode kc_B_export 35 = .ok (.iconst 0, 1) := by decide +kernel
theorem kd_B_export_36 : decode kc_B_export 36 = .ok (.invokestatic 81, 3) := by decide +kernel
theorem kd_B_export_39 : decode kc_B_export 39 = .ok (.aload_n 0, 1) := by decide +kernel
theorem kd_B_export_40 : decode kc_B_export 40 = .ok (.getfield 58, 3) := by decide +kernel
theorem kd_B_export_43 : decode kc_B_export 43 = .ok (.iload_n 1, 1) := by decide +kernel
theorem kd_B_export_44 : decode kc_B_export 44 = .ok (.iload_n 2, 1) := by decide +kernel
theorem kd_B_export_45 : decode kc_B_export 45 = .ok (.iconst 0, 1) := by decide +kernel
theorem kd_B_export_46 : decode kc_B_export 46 = .ok (.invokevirtual 255, 3) := by decide +kernel
theorem kd_B_export_49 : decode kc_B_export 49 = .ok (.lstore_n 3, 1) := by decide +kernel
theorem kd_B_export_50 : decode kc_B_export 50 = .ok (.aload_n 0, 1) := by decide +kernel
theorem kd_B_export_51 : decode kc_B_export 51 = .ok (.getfield 65, 3) := by decide +kernel
theorem kd_B_export_54 : decode kc_B_export 54 = .ok (.dup, 1) := by decide +kernel
theorem kd_B_export_55 : decode kc_B_export 55 = .ok (.getfield 266, 3) := by decide +kernel
theorem kd_B_export_58 : decode kc_B_export 58 = .ok (.lload_n 3, 1) := by decide +kernel
theorem kd_B_export_59 : decode kc_B_export 59 = .ok (.ladd, 1) := by decide +kernel
theorem kd_B_export_60 : decode kc_B_export 60 = .ok (.putfield 266, 3) := by decide +kernel
theorem kd_B_export_63 : decode kc_B_export 63 = .ok (.lload_n 3, 1) := by decide +kernel
theorem kd_B_export_64 : decode kc_B_export 64 = .ok (.lreturn, 1) := by decide +kernel
theorem kd_B_work_0 : decode kc_B_work 0 = .ok (.iload_n 1, 1) := by decide +kernel
theorem kd_B_work_1 : decode kc_B_work 1 = .ok (.invokestatic 105, 3) := by decide +kernel
theorem kd_B_work_4 : decode kc_B_work 4 = .ok (.ifCond .eq 19, 3) := by decide +kernel
theorem kd_B_work_7 : decode kc_B_work 7 = .ok (.iload_n 3, 1) := by decide +kernel
theorem kd_B_work_8 : decode kc_B_work 8 = .ok (.invokestatic 105, 3) := by decide +kernel
theorem kd_B_work_11 : decode kc_B_work 11 = .ok (.ifCond .eq 12, 3) := by decide +kernel
theorem kd_B_work_14 : decode kc_B_work 14 = .ok (.iload_n 1, 1) := by decide +kernel
theorem kd_B_work_15 : decode kc_B_work 15 = .ok (.iload_n 3, 1) := by decide +kernel
theorem kd_B_work_16 : decode kc_B_work 16 = .ok (.if_icmp .eq 7, 3) := by decide +kernel
theorem kd_B_work_19 : decode kc_B_work 19 = .ok (.iconst 1, 1) := by decide +kernel
theorem kd_B_work_20 : decode kc_B_work 20 = .ok (.goto 4, 3) := by decide +kernel
theorem kd_B_work_23 : decode kc_B_work 23 = .ok (.iconst 0, 1) := by decide +kernel
theorem kd_B_work_24 : decode kc_B_work 24 = .ok (.invokestatic 73, 3) := by decide +kernel
theorem kd_B_work_27 : decode kc_B_work 27 = .ok (.iconst 1, 1) := by decide +kernel
theorem kd_B_work_28 : decode kc_B_work 28 = .ok (.iload 4, 2) := by decide +kernel
theorem kd_B_work_30 : decode kc_B_work 30 = .ok (.if_icmp .gt 20, 3) := by decide +kernel
theorem kd_B_work_33 : decode kc_B_work 33 = .ok (.iload 4, 2) := by decide +kernel
theorem kd_B_work_35 : decode kc_B_work 35 = .ok (.iload_n 2, 1) := by decide +kernel
theorem kd_B_work_36 : decode kc_B_work 36 = .ok (.if_icmp .gt 14, 3) := by decide +kernel
theorem kd_B_work_39 : decode kc_B_work 39 = .ok (.iload_n 2, 1) := by decide +kernel
theorem kd_B_work_40 : decode kc_B_work 40 = .ok (.sipush 1000, 3) := by decide +kernel
theorem kd_B_work_43 : decode kc_B_work 43 = .ok (.if_icmp .gt 7, 3) := by decide +kernel
theorem kd_B_work_46 : decode kc_B_work 46 = .ok (.iconst 1, 1) := by decide +kernel
theorem kd_B_work_47 : decode kc_B_work 47 = .ok (.goto 4, 3) := by decide +kernel
theorem kd_B_work_50 : decode kc_B_work 50 = .ok (.iconst 0, 1) := by decide +kernel
theorem kd_B_work_51 : decode kc_B_work 51 = .ok (.invokestatic 73, 3) := by decide +kernel
theorem kd_B_work_54 : decode kc_B_work 54 = .ok (.aload_n 0, 1) := by decide +kernel
theorem kd_B_work_55 : decode kc_B_work 55 = .ok (.getfield 58, 3) := by decide +kernel
theorem kd_B_work_58 : decode kc_B_work 58 = .ok (.iload_n 1, 1) := by decide +kernel
theorem kd_B_work_59 : decode kc_B_work 59 = .ok (.iconst 1, 1) := by decide +kernel
theorem kd_B_work_60 : decode kc_B_work 60 = .ok (.invokevirtual 251, 3) := by decide +kernel
theorem kd_B_work_63 : decode kc_B_work 63 = .ok (.iload_n 2, 1) := by decide +kernel
theorem kd_B_work_64 : decode kc_B_work 64 = .ok (.if_icmp .lt 7, 3) := by decide +kernel
theorem kd_B_work_67 : decode kc_B_work 67 = .ok (.iconst 1, 1) := by decide +kernel
theorem kd_B_work_68 : decode kc_B_work 68 = .ok (.goto 4, 3) := by decide +kernel
theorem kd_B_work_71 : decode kc_B_work 71 = .ok (.iconst 0, 1) := by decide +kernel
theorem kd_B_work_72 : decode kc_B_work 72 = .ok (.invokestatic 81, 3) := by decide +kernel
theorem kd_B_work_75 : decode kc_B_work 75 = .ok (.aload_n 0, 1) := by decide +kernel
theorem kd_B_work_76 : decode kc_B_work 76 = .ok (.getfield 58, 3) := by decide +kernel
theorem kd_B_work_79 : decode kc_B_work 79 = .ok (.getfield 224, 3) := by decide +kernel
theorem kd_B_work_82 : decode kc_B_work 82 = .ok (.iconst 1, 1) := by decide +kernel
theorem kd_B_work_83 : decode kc_B_work 83 = .ok (.iadd, 1) := by decide +kernel
theorem kd_B_work_84 : decode kc_B_work 84 = .ok (.invokestatic 225, 3) := by decide +kernel
theorem kd_B_work_87 : decode kc_B_work 87 = .ok (.aload_n 0, 1) := by decide +kernel
theorem kd_B_work_88 : decode kc_B_work 88 = .ok (.getfield 58, 3) := by decide +kernel
theorem kd_B_work_91 : decode kc_B_work 91 = .ok (.iload_n 1, 1) := by decide +kernel
theorem kd_B_work_92 : decode kc_B_work 92 = .ok (.iload_n 2, 1) := by decide +kernel
theorem kd_B_work_93 : decode kc_B_work 93 = .ok (.iconst 1, 1) := by decide +kernel
theorem kd_B_work_94 : decode kc_B_work 94 = .ok (.invokevirtual 255, 3) := by decide +kernel
theorem kd_B_work_97 : decode kc_B_work 97 = .ok (.lstore 5, 2) := by decide +kernel
theorem kd_B_work_99 : decode kc_B_work 99 = .ok (.aload_n 0, 1) := by decide +kernel
theorem kd_B_work_100 : decode kc_B_work 100 = .ok (.getfield 65, 3) := by decide +kernel
theorem kd_B_work_103 : decode kc_B_work 103 = .ok (.getfield 269, 3) := by decide +kernel
theorem kd_B_work_106 : decode kc_B_work 106 = .ok (.iload_n 1, 1) := by decide +kernel
theorem kd_B_work_107 : decode kc_B_work 107 = .ok (.dup2, 1) := by decide +kernel
theorem kd_B_work_108 : decode kc_B_work 108 = .ok (.iaload, 1) := by decide +kernel
theorem kd_B_work_109 : decode kc_B_work 109 = .ok (.iload_n 2, 1) := by decide +kernel
theorem kd_B_work_110 : decode kc_B_work 110 = .ok (.iadd, 1) := by decide +kernel
theorem kd_B_work_111 : decode kc_B_work 111 = .ok (.iastore, 1) := by decide +kernel
theorem kd_B_work_112 : decode kc_B_work 112 = .ok (.aload_n 0, 1) := by decide +kernel
theorem kd_B_work_113 : decode kc_B_work 113 = .ok (.getfield 65, 3) := by decide +kernel
theorem kd_B_work_116 : decode kc_B_work 116 = .ok (.getfield 272, 3) := by decide +kernel
theorem kd_B_work_119 : decode kc_B_work 119 = .ok (.iload_n 1, 1) := by decide +kernel
theorem kd_B_work_120 : decode kc_B_work 120 = .ok (.dup2, 1) := by decide +kernel
theorem kd_B_work_121 : decode kc_B_work 121 = .ok (.iaload, 1) := by decide +kernel
theorem kd_B_work_122 : decode kc_B_work 122 = .ok (.iload_n 2, 1) := by decide +kernel
theorem kd_B_work_123 : decode kc_B_work 123 = .ok (.iload 4, 2) := by decide +kernel
theorem kd_B_work_125 : decode kc_B_work 125 = .ok (.isub, 1) := by decide +kernel
theorem kd_B_work_126 : decode kc_B_work 126 = .ok (.iadd, 1) := by decide +kernel
theorem kd_B_work_127 : decode kc_B_work 127 = .ok (.iastore, 1) := by decide +kernel
theorem kd_B_work_128 : decode kc_B_work 128 = .ok (.aload_n 0, 1) := by decide +kernel
theorem kd_B_work_129 : decode kc_B_work 129 = .ok (.getfield 58, 3) := by decide +kernel
theorem kd_B_work_132 : decode kc_B_work 132 = .ok (.iload_n 3, 1) := by decide +kernel
theorem kd_B_work_133 : decode kc_B_work 133 = .ok (.iload 4, 2) := by decide +kernel
theorem kd_B_work_135 : decode kc_B_work 135 = .ok (.lload 5, 2) := by decide +kernel
theorem kd_B_work_137 : decode kc_B_work 137 = .ok (.iconst 1, 1) := by decide +kernel
theorem kd_B_work_138 : decode kc_B_work 138 = .ok (.iconst 1, 1) := by decide +kernel
theorem kd_B_work_139 : decode kc_B_work 139 = .ok (.invokevirtual 275, 3) := by decide +kernel
theorem kd_B_work_142 : decode kc_B_work 142 = .ok (.ireturn, 1) := by decide +kernel
theorem kd_B_lot_0 : decode kc_B_lot 0 = .ok (.iload_n 1, 1) := by decide +kernel
theorem kd_B_lot_1 : decode kc_B_lot 1 = .ok (.aload_n 0, 1) := by decide +kernel
theorem kd_B_lot_2 : decode kc_B_lot 2 = .ok (.getfield 58, 3) := by decide +kernel
theorem kd_B_lot_5 : decode kc_B_lot 5 = .ok (.getfield 224, 3) := by decide +kernel
theorem kd_B_lot_8 : decode kc_B_lot 8 = .ok (.invokestatic 137, 3) := by decide +kernel
theorem kd_B_lot_11 : decode kc_B_lot 11 = .ok (.invokestatic 73, 3) := by decide +kernel
theorem kd_B_lot_14 : decode kc_B_lot 14 = .ok (.iload_n 2, 1) := by decide +kernel
theorem kd_B_lot_15 : decode kc_B_lot 15 = .ok (.iconst 0, 1) := by decide +kernel
theorem kd_B_lot_16 : decode kc_B_lot 16 = .ok (.iconst 4, 1) := by decide +kernel
theorem kd_B_lot_17 : decode kc_B_lot 17 = .ok (.invokestatic 94, 3) := by decide +kernel
theorem kd_B_lot_20 : decode kc_B_lot 20 = .ok (.invokestatic 73, 3) := by decide +kernel
theorem kd_B_lot_23 : decode kc_B_lot 23 = .ok (.iload_n 2, 1) := by decide +kernel
theorem kd_B_lot_24 : decode kc_B_lot 24 = .ok (.tableswitch 75 0 3 #[32, 43, 54, 65], 32) := by decide +kernel
theorem kd_B_lot_56 : decode kc_B_lot 56 = .ok (.aload_n 0, 1) := by decide +kernel
theorem kd_B_lot_57 : decode kc_B_lot 57 = .ok (.getfield 58, 3) := by decide +kernel
theorem kd_B_lot_60 : decode kc_B_lot 60 = .ok (.getfield 278, 3) := by decide +kernel
theorem kd_B_lot_63 : decode kc_B_lot 63 = .ok (.iload_n 1, 1) := by decide +kernel
theorem kd_B_lot_64 : decode kc_B_lot 64 = .ok (.iaload, 1) := by decide +kernel
