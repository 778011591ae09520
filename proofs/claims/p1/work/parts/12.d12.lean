theorem kd_B_release_24 : decode kc_B_release 24 = .ok (.invokevirtual 251, 3) := by decide +kernel
theorem kd_B_release_27 : decode kc_B_release 27 = .ok (.iload_n 2, 1) := by decide +kernel
theorem kd_B_release_28 : decode kc_B_release 28 = .ok (.if_icmp .lt 7, 3) := by decide +kernel
theorem kd_B_release_31 : decode kc_B_release 31 = .ok (.iconst 1, 1) := by decide +kernel
theorem kd_B_release_32 : decode kc_B_release 32 = .ok (.goto 4, 3) := by decide +kernel
theorem kd_B_release_35 : decode kc_B_release 35 = .ok (.iconst 0, 1) := by decide +kernel
theorem kd_B_release_36 : decode kc_B_release 36 = .ok (.invokestatic 81, 3) := by decide +kernel
theorem kd_B_release_39 : decode kc_B_release 39 = .ok (.aload_n 0, 1) := by decide +kernel
theorem kd_B_release_40 : decode kc_B_release 40 = .ok (.getfield 58, 3) := by decide +kernel
theorem kd_B_release_43 : decode kc_B_release 43 = .ok (.iload_n 1, 1) := by decide +kernel
theorem kd_B_release_44 : decode kc_B_release 44 = .ok (.iload_n 2, 1) := by decide +kernel
theorem kd_B_release_45 : decode kc_B_release 45 = .ok (.iconst 1, 1) := by decide +kernel
theorem kd_B_release_46 : decode kc_B_release 46 = .ok (.invokevirtual 255, 3) := by decide +kernel
theorem kd_B_release_49 : decode kc_B_release 49 = .ok (.lstore_n 3, 1) := by decide +kernel
theorem kd_B_release_50 : decode kc_B_release 50 = .ok (.aload_n 0, 1) := by decide +kernel
theorem kd_B_release_51 : decode kc_B_release 51 = .ok (.getfield 65, 3) := by decide +kernel
theorem kd_B_release_54 : decode kc_B_release 54 = .ok (.dup, 1) := by decide +kernel
theorem kd_B_release_55 : decode kc_B_release 55 = .ok (.getfield 259, 3) := by decide +kernel
theorem kd_B_release_58 : decode kc_B_release 58 = .ok (.lload_n 3, 1) := by decide +kernel
theorem kd_B_release_59 : decode kc_B_release 59 = .ok (.ladd, 1) := by decide +kernel
theorem kd_B_release_60 : decode kc_B_release 60 = .ok (.putfield 259, 3) := by decide +kernel
theorem kd_B_release_63 : decode kc_B_release 63 = .ok (.aload_n 0, 1) := by decide +kernel
theorem kd_B_release_64 : decode kc_B_release 64 = .ok (.getfield 65, 3) := by decide +kernel
theorem kd_B_release_67 : decode kc_B_release 67 = .ok (.getfield 263, 3) := by decide +kernel
theorem kd_B_release_70 : decode kc_B_release 70 = .ok (.iload_n 1, 1) := by decide +kernel
theorem kd_B_release_71 : decode kc_B_release 71 = .ok (.dup2, 1) := by decide +kernel
theorem kd_B_release_72 : decode kc_B_release 72 = .ok (.iaload, 1) := by decide +kernel
theorem kd_B_release_73 : decode kc_B_release 73 = .ok (.iload_n 2, 1) := by decide +kernel
theorem kd_B_release_74 : decode kc_B_release 74 = .ok (.iadd, 1) := by decide +kernel
theorem kd_B_release_75 : decode kc_B_release 75 = .ok (.iastore, 1) := by decide +kernel
theorem kd_B_release_76 : decode kc_B_release 76 = .ok (.lload_n 3, 1) := by decide +kernel
theorem kd_B_release_77 : decode kc_B_release 77 = .ok (.lreturn, 1) := by decide +kernel
theorem kd_B_export_0 : decode kc_B_export 0 = .ok (.iload_n 1, 1) := by decide +kernel
theorem kd_B_export_1 : decode kc_B_export 1 = .ok (.invokestatic 105, 3) := by decide +kernel
theorem kd_B_export_4 : decode kc_B_export 4 = .ok (.invokestatic 73, 3) := by decide +kernel
theorem kd_B_export_7 : decode kc_B_export 7 = .ok (.iload_n 2, 1) := by decide +kernel
theorem kd_B_export_8 : decode kc_B_export 8 = .ok (.iconst 1, 1) := by decide +kernel
theorem kd_B_export_9 : decode kc_B_export 9 = .ok (.sipush 1000, 3) := by decide +kernel
theorem kd_B_export_12 : decode kc_B_export 12 = .ok (.invokestatic 94, 3) := by decide +kernel
theorem kd_B_export_15 : decode kc_B_export 15 = .ok (.invokestatic 73, 3) := by decide +kernel
theorem kd_B_export_18 : decode kc_B_export 18 = .ok (.aload_n 0, 1) := by decide +kernel
theorem kd_B_export_19 : decode kc_B_export 19 = .ok (.getfield 58, 3) := by decide +kernel
theorem kd_B_export_22 : decode kc_B_export 22 = .ok (.iload_n 1, 1) := by decide +kernel
theorem kd_B_export_23 : decode kc_B_export 23 = .ok (.iconst 0, 1) := by decide +kernel
theorem kd_B_export_24 : decode kc_B_export 24 = .ok (.invokevirtual 251, 3) := by decide +kernel
theorem kd_B_export_27 : decode kc_B_export 27 = .ok (.iload_n 2, 1) := by decide +kernel
theorem kd_B_export_28 : decode kc_B_export 28 = .ok (.if_icmp .lt 7, 3) := by decide +kernel
theorem kd_B_export_31 : decode kc_B_export 31 = .ok (.iconst 1, 1) := by decide +kernel
theorem kd_B_export_32 : decode kc_B_export 32 = .ok (.goto 4, 3) := by decide +kernel
theorem kd_B_export_35 : decode kc_B_export 35 = .ok (.iconst 0, 1) := by decide +kernel
theorem kd_B_export_36 : decode kc_B_export 36 = .ok (.invokestatic 81, 3) := by decide +kernel
theorem kd_B_export_39 : decode kc_B_export 39 = .ok (.aload_n 0, 1) := by decide +kernel
theorem kd_B_export_40 : decode kc_B_export 40 = .ok (.getfield 58, 3) := by decide +kernel
theorem kd_B_export_43 : decode kc_B_export 43 = .ok (.iload_n 1, 1) := by decide +kernel
theorem kd_B_export_44 : decode kc_B_export 44 = .ok (.iload_n 2, 1) := by decide +kernel
theorem kd_B_export_45 : decode kc_B_export 45 = .ok (.iconst 0, 1) := by decide +kernel
theorem kd_B_export_46 : decode kc_B_export 46 = .ok (.invokevirtual 255, 3) := by decide +kernel
theorem kd_B_export_49 : decode kc_B_export 49 = .ok (.lstore_n 3, 1) := by decide +kernel
theorem kd_B_export_50 : decode kc_B_export 50 = .ok (.aload_n 0, 1) := by decide +kernel
theorem kd_B_export_51 : decode kc_B_export 51 = .ok (.getfield 65, 3) := by decide +kernel
theorem kd_B_export_54 : decode kc_B_export 54 = .ok (.dup, 1) := by decide +kernel
theorem kd_B_export_55 : decode kc_B_export 55 = .ok (.getfield 266, 3) := by decide +kernel
theorem kd_B_export_58 : decode kc_B_export 58 = .ok (.lload_n 3, 1) := by decide +kernel
theorem kd_B_export_59 : decode kc_B_export 59 = .ok (.ladd, 1) := by decide +kernel
theorem kd_B_export_60 : decode kc_B_export 60 = .ok (.putfield 266, 3) := by decide +kernel
theorem kd_B_export_63 : decode kc_B_export 63 = .ok (.lload_n 3, 1) := by decide +kernel
theorem kd_B_export_64 : decode kc_B_export 64 = .ok (.lreturn, 1) := by decide +kernel
theorem kd_B_work_0 : decode kc_B_work 0 = .ok (.iload_n 1, 1) := by decide +kernel
theorem kd_B_work_1 : decode kc_B_work 1 = .ok (.invokestatic 105, 3) := by decide +kernel
theorem kd_B_work_4 : decode kc_B_work 4 = .ok (.ifCond .eq 19, 3) := by decide +kernel
theorem kd_B_work_7 : decode kc_B_work 7 = .ok (.iload_n 3, 1) := by decide +kernel
theorem kd_B_work_8 : decode kc_B_work 8 = .ok (.invokestatic 105, 3) := by decide +kernel
theorem kd_B_work_11 : decode kc_B_work 11 = .ok (.ifCond .eq 12, 3) := by decide +kernel
theorem kd_B_work_14 : decode kc_B_work 14 = .ok (.iload_n 1, 1) := by decide +kernel
theorem kd_B_work_15 : decode kc_B_work 15 = .ok (.iload_n 3, 1) := by decide +kernel
theorem kd_B_work_16 : decode kc_B_work 16 = .ok (.if_icmp .eq 7, 3) := by decide +kernel
theorem kd_B_work_19 : decode kc_B_work 19 = .ok (.iconst 1, 1) := by decide +kernel
theorem kd_B_work_20 : decode kc_B_work 20 = .ok (.goto 4, 3) := by decide +kernel
theorem kd_B_work_23 : decode kc_B_work 23 = .ok (.iconst 0, 1) := by decide +kernel
theorem kd_B_work_24 : decode kc_B_work 24 = .ok (.invokestatic 73, 3) := by decide +kernel
theorem kd_B_work_27 : decode kc_B_work 27 = .ok (.iconst 1, 1) := by decide +kernel
theorem kd_B_work_28 : decode kc_B_work 28 = .ok (.iload 4, 2) := by decide +kernel
theorem kd_B_work_30 : decode kc_B_work 30 = .ok (.if_icmp .gt 20, 3) := by decide +kernel
theorem kd_B_work_33 : decode kc_B_work 33 = .ok (.iload 4, 2) := by decide +kernel
theorem kd_B_work_35 : decode kc_B_work 35 = .ok (.iload_n 2, 1) := by decide +kernel
theorem kd_B_work_36 : decode kc_B_work 36 = .ok (.if_icmp .gt 14, 3) := by decide +kernel
theorem kd_B_work_39 : decode kc_B_work 39 = .ok (.iload_n 2, 1) := by decide +kernel
theorem kd_B_work_40 : decode kc_B_work 40 = .ok (.sipush 1000, 3) := by decide +kernel
theorem kd_B_work_43 : decode kc_B_work 43 = .ok (.if_icmp .gt 7, 3) := by decide +kernel
theorem kd_B_work_46 : decode kc_B_work 46 = .ok (.iconst 1, 1) := by decide +kernel
theorem kd_B_work_47 : decode kc_B_work 47 = .ok (.goto 4, 3) := by decide +kernel
theorem kd_B_work_50 : decode kc_B_work 50 = .ok (.iconst 0, 1) := by decide +kernel
theorem kd_B_work_51 : decode kc_B_work 51 = .ok (.invokestatic 73, 3) := by decide +kernel
theorem kd_B_work_54 : decode kc_B_work 54 = .ok (.aload_n 0, 1) := by decide +kernel
theorem kd_B_work_55 : decode kc_B_work 55 = .ok (.getfield 58, 3) := by decide +kernel
theorem kd_B_work_58 : decode kc_B_work 58 = .ok (.iload_n 1, 1) := by decide +kernel
theorem kd_B_work_59 : decode kc_B_work 59 = .ok (.iconst 1, 1) := by decide +kernel
theorem kd_B_work_60 : decode kc_B_work 60 = .ok (.invokevirtual 251, 3) := by decide +kernel
theorem kd_B_work_63 : decode kc_B_work 63 = .ok (.iload_n 2, 1) := by decide +kernel
theorem kd_B_work_64 : decode kc_B_work 64 = .ok (.if_icmp .lt 7, 3) := by decide +kernel
theorem kd_B_work_67 : decode kc_B_work 67 = .ok (.iconst 1, 1) := by decide +kernel
theorem kd_B_work_68 : decode kc_B_work 68 = .ok (.goto 4, 3) := by decide +kernel
theorem kd_B_work_71 : decode kc_B_work 71 = .ok (.iconst 0, 1) := by decide +kernel
theorem kd_B_work_72 : decode kc_B_work 72 = .ok (.invokestatic 81, 3) := by decide +kernel
theorem kd_B_work_75 : decode kc_B_work 75 = .ok (.aload_n 0, 1) := by decide +kernel
theorem kd_B_work_76 : decode kc_B_work 76 = .ok (.getfield 58, 3) := by decide +kernel
theorem kd_B_work_79 : decode kc_B_work 79 = .ok (.getfield 224, 3) := by decide +kernel
theorem kd_B_work_82 : decode kc_B_work 82 = .ok (.iconst 1, 1) := by decide +kernel
theorem kd_B_work_83 : decode kc_B_work 83 = .ok (.iadd, 1) := by decide +kernel
theorem kd_B_work_84 : decode kc_B_work 84 = .ok (.invokestatic 225, 3) := by decide +kernel
theorem kd_B_work_87 : decode kc_B_work 87 = .ok (.aload_n 0, 1) := by decide +kernel
theorem kd_B_work_88 : decode kc_B_work 88 = .ok (.getfield 58, 3) := by decide +kernel
theorem kd_B_work_91 : decode kc_B_work 91 = .ok (.iload_n 1, 1) := by decide +kernel
theorem kd_B_work_92 : decode kc_B_work 92 = .ok (.iload_n 2, 1) := by decide +kernel
theorem kd_B_work_93 : decode kc_B_work 93 = .ok (.iconst 1, 1) := by decide +kernel
theorem kd_B_work_94 : decode kc_B_work 94 = .ok (.invokevirtual 255, 3) := by decide +kernel
theorem kd_B_work_97 : decode kc_B_work 97 = .ok (.lstore 5, 2) := by decide +kernel
theorem kd_B_work_99 : decode kc_B_work 99 = .ok (.aload_n 0, 1) := by decide +kernel
theorem kd_B_work_100 : decode kc_B_work 100 = .ok (.getfield 65, 3) := by decide +kernel
theorem kd_B_work_103 : decode kc_B_work 103 = .ok (.getfield 269, 3) := by decide +kernel
theorem kd_B_work_106 : decode kc_B_work 106 = .ok (.iload_n 1, 1) := by decide +kernel
theorem kd_B_work_107 : decode kc_B_work 107 = .ok (.dup2, 1) := by decide +kernel
theorem kd_B_work_108 : decode kc_B_work 108 = .ok (.iaload, 1) := by decide +kernel
theorem kd_B_work_109 : decode kc_B_work 109 = .ok (.iload_n 2, 1) := by decide +kernel
theorem kd_B_work_110 : decode kc_B_work 110 = .ok (.iadd, 1) := by decide +kernel
theorem kd_B_work_111 : decode kc_B_work 111 = .ok (.iastore, 1) := by decide +kernel
theorem kd_B_work_112 : decode kc_B_work 112 = .ok (.aload_n 0, 1) := by decide +kernel
theorem kd_B_work_113 : decode kc_B_work 113 = .ok (.getfield 65, 3) := by decide +kernel
theorem kd_B_work_116 : decode kc_B_work 116 = .ok (.getfield 272, 3) := by decide +kernel
theorem kd_B_work_119 : decode kc_B_work 119 = .ok (.iload_n 1, 1) := by decide +kernel
theorem kd_B_work_120 : decode kc_B_work 120 = .ok (.dup2, 1) := by decide +kernel
theorem kd_B_work_121 : decode kc_B_work 121 = .ok (.iaload, 1) := by decide +kernel
theorem kd_B_work_122 : decode kc_B_work 122 = .ok (.iload_n 2, 1) := by decide +kernel
theorem kd_B_work_123 : decode kc_B_work 123 = .ok (.iload 4, 2) := by decide +kernel
theorem kd_B_work_125 : decode kc_B_work 125 = .ok (.isub, 1) := by decide +kernel
theorem kd_B_work_126 : decode kc_B_work 126 = .ok (.iadd, 1) := by decide +kernel
theorem kd_B_work_127 : decode kc_B_work 127 = .ok (.iastore, 1) := by decide +kernel
theorem kd_B_work_128 : decode kc_B_work 128 = .ok (.aload_n 0, 1) := by decide +kernel
theorem kd_B_work_129 : decode kc_B_work 129 = .ok (.getfield 58, 3) := by decide +kernel
theorem kd_B_work_132 : decode kc_B_work 132 = .ok (.iload_n 3, 1) := by decide +kernel
theorem kd_B_work_133 : decode kc_B_work 133 = .ok (.iload 4, 2) := by decide +kernel
theorem kd_B_work_135 : decode kc_B_work 135 = .ok (.lload 5, 2) := by decide +kernel
theorem kd_B_work_137 : decode kc_B_work 137 = .ok (.iconst 1, 1) := by decide +kernel
theorem kd_B_work_138 : decode kc_B_work 138 = .ok (.iconst 1, 1) := by decide +kernel
theorem kd_B_work_139 : decode kc_B_work 139 = .ok (.invokevirtual 275, 3) := by decide +kernel
theorem kd_B_work_142 : decode kc_B_work 142 = .ok (.ireturn, 1) := by decide +kernel
theorem kd_B_lot_0 : decode kc_B_lot 0 = .ok (.iload_n 1, 1) := by decide +kernel
theorem kd_B_lot_1 : decode kc_B_lot 1 = .ok (.aload_n 0, 1) := by decide +kernel
theorem kd_B_lot_2 : decode kc_B_lot 2 = .ok (.getfield 58, 3) := by decide +kernel
theorem kd_B_lot_5 : decode kc_B_lot 5 = .ok (.getfield 224, 3) := by decide +kernel
theorem kd_B_lot_8 : decode kc_B_lot 8 = .ok (.invokestatic 137, 3) := by decide +kernel
theorem kd_B_lot_11 : decode kc_B_lot 11 = .ok (.invokestatic 73, 3) := by decide +kernel
theorem kd_B_lot_14 : decode kc_B_lot 14 = .ok (.iload_n 2, 1) := by decide +kernel
theorem kd_B_lot_15 : decode kc_B_lot 15 = .ok (.iconst 0, 1) := by decide +kernel
theorem kd_B_lot_16 : decode kc_B_lot 16 = .ok (.iconst 4, 1) := by decide +kernel
theorem kd_B_lot_17 : decode kc_B_lot 17 = .ok (.invokestatic 94, 3) := by decide +kernel
theorem kd_B_lot_20 : decode kc_B_lot 20 = .ok (.invokestatic 73, 3) := by decide +kernel
theorem kd_B_lot_23 : decode kc_B_lot 23 = .ok (.iload_n 2, 1) := by decide +kernel
theorem kd_B_lot_24 : decode kc_B_lot 24 = .ok (.tableswitch 75 0 3 #[32, 43, 54, 65], 32) := by decide +kernel
theorem kd_B_lot_56 : decode kc_B_lot 56 = .ok (.aload_n 0, 1) := by decide +kernel
theorem kd_B_lot_57 : decode kc_B_lot 57 = .ok (.getfield 58, 3) := by decide +kernel
theorem kd_B_lot_60 : decode kc_B_lot 60 = .ok (.getfield 278, 3) := by decide +kernel
theorem kd_B_lot_63 : decode kc_B_lot 63 = .ok (.iload_n 1, 1) := by decide +kernel
theorem kd_B_lot_64 : decode kc_B_lot 64 = .ok (.iaload, 1) := by decide +kernel
theorem kd_B_lot_65 : decode kc_B_lot 65 = .ok (.i2l, 1) := by decide +kernel
theorem kd_B_lot_66 : decode kc_B_lot 66 = .ok (.lreturn, 1) := by decide +kernel
theorem kd_B_lot_67 : decode kc_B_lot 67 = .ok (.aload_n 0, 1) := by decide +kernel
theorem kd_B_lot_68 : decode kc_B_lot 68 = .ok (.getfield 58, 3) := by decide +kernel
theorem kd_B_lot_71 : decode kc_B_lot 71 = .ok (.getfield 281, 3) := by decide +kernel
theorem kd_B_lot_74 : decode kc_B_lot 74 = .ok (.iload_n 1, 1) := by decide +kernel
theorem kd_B_lot_75 : decode kc_B_lot 75 = .ok (.iaload, 1) := by decide +kernel
theorem kd_B_lot_76 : decode kc_B_lot 76 = .ok (.i2l, 1) := by decide +kernel
theorem kd_B_lot_77 : decode kc_B_lot 77 = .ok (.lreturn, 1) := by decide +kernel
theorem kd_B_lot_78 : decode kc_B_lot 78 = .ok (.aload_n 0, 1) := by decide +kernel
theorem kd_B_lot_79 : decode kc_B_lot 79 = .ok (.getfield 58, 3) := by decide +kernel
theorem kd_B_lot_82 : decode kc_B_lot 82 = .ok (.getfield 284, 3) := by decide +kernel
theorem kd_B_lot_85 : decode kc_B_lot 85 = .ok (.iload_n 1, 1) := by decide +kernel
theorem kd_B_lot_86 : decode kc_B_lot 86 = .ok (.iaload, 1) := by decide +kernel
theorem kd_B_lot_87 : decode kc_B_lot 87 = .ok (.i2l, 1) := by decide +kernel
theorem kd_B_lot_88 : decode kc_B_lot 88 = .ok (.lreturn, 1) := by decide +kernel
theorem kd_B_lot_89 : decode kc_B_lot 89 = .ok (.aload_n 0, 1) := by decide +kernel
theorem kd_B_lot_90 : decode kc_B_lot 90 = .ok (.getfield 58, 3) := by decide +kernel
theorem kd_B_lot_93 : decode kc_B_lot 93 = .ok (.getfield 287, 3) := by decide +kernel
theorem kd_B_lot_96 : decode kc_B_lot 96 = .ok (.iload_n 1, 1) := by decide +kernel
theorem kd_B_lot_97 : decode kc_B_lot 97 = .ok (.laload, 1) := by decide +kernel
theorem kd_B_lot_98 : decode kc_B_lot 98 = .ok (.lreturn, 1) := by decide +kernel
theorem kd_B_lot_99 : decode kc_B_lot 99 = .ok (.aload_n 0, 1) := by decide +kernel
theorem kd_B_lot_100 : decode kc_B_lot 100 = .ok (.getfield 58, 3) := by decide +kernel
theorem kd_B_lot_103 : decode kc_B_lot 103 = .ok (.getfield 288, 3) := by decide +kernel
theorem kd_B_lot_106 : decode kc_B_lot 106 = .ok (.iload_n 1, 1) := by decide +kernel
theorem kd_B_lot_107 : decode kc_B_lot 107 = .ok (.baload, 1) := by decide +kernel
theorem kd_B_lot_108 : decode kc_B_lot 108 = .ok (.ifCond .eq 7, 3) := by decide +kernel
theorem kd_B_lot_111 : decode kc_B_lot 111 = .ok (.lconst 1, 1) := by decide +kernel
theorem kd_B_lot_112 : decode kc_B_lot 112 = .ok (.goto 4, 3) := by decide +kernel
theorem kd_B_lot_115 : decode kc_B_lot 115 = .ok (.lconst 0, 1) := by decide +kernel
theorem kd_B_lot_116 : decode kc_B_lot 116 = .ok (.lreturn, 1) := by decide +kernel
theorem kd_B_account_0 : decode kc_B_account 0 = .ok (.iload_n 1, 1) := by decide +kernel
theorem kd_B_account_1 : decode kc_B_account 1 = .ok (.invokestatic 105, 3) := by decide +kernel
theorem kd_B_account_4 : decode kc_B_account 4 = .ok (.invokestatic 73, 3) := by decide +kernel
theorem kd_B_account_7 : decode kc_B_account 7 = .ok (.iload_n 2, 1) := by decide +kernel
theorem kd_B_account_8 : decode kc_B_account 8 = .ok (.iconst 0, 1) := by decide +kernel
theorem kd_B_account_9 : decode kc_B_account 9 = .ok (.iconst 5, 1) := by decide +kernel
theorem kd_B_account_10 : decode kc_B_account 10 = .ok (.invokestatic 94, 3) := by decide +kernel
theorem kd_B_account_13 : decode kc_B_account 13 = .ok (.invokestatic 73, 3) := by decide +kernel
theorem kd_B_account_16 : decode kc_B_account 16 = .ok (.iload_n 2, 1) := by decide +kernel
theorem kd_B_account_17 : decode kc_B_account 17 = .ok (.tableswitch 90 0 4 #[35, 46, 57, 68, 79], 35) := by decide +kernel
theorem kd_B_account_52 : decode kc_B_account 52 = .ok (.aload_n 0, 1) := by decide +kernel
theorem kd_B_account_53 : decode kc_B_account 53 = .ok (.getfield 58, 3) := by decide +kernel
theorem kd_B_account_56 : decode kc_B_account 56 = .ok (.iload_n 1, 1) := by decide +kernel
theorem kd_B_account_57 : decode kc_B_account 57 = .ok (.iconst 0, 1) := by decide +kernel
theorem kd_B_account_58 : decode kc_B_account 58 = .ok (.invokevirtual 291, 3) := by decide +kernel
theorem kd_B_account_61 : decode kc_B_account 61 = .ok (.i2l, 1) := by decide +kernel
theorem kd_B_account_62 : decode kc_B_account 62 = .ok (.lreturn, 1) := by decide +kernel
theorem kd_B_account_63 : decode kc_B_account 63 = .ok (.aload_n 0, 1) := by decide +kernel
theorem kd_B_account_64 : decode kc_B_account 64 = .ok (.getfield 58, 3) := by decide +kernel
theorem kd_B_account_67 : decode kc_B_account 67 = .ok (.iload_n 1, 1) := by decide +kernel
theorem kd_B_account_68 : decode kc_B_account 68 = .ok (.iconst 1, 1) := by decide +kernel
theorem kd_B_account_69 : decode kc_B_account 69 = .ok (.invokevirtual 291, 3) := by decide +kernel
theorem kd_B_account_72 : decode kc_B_account 72 = .ok (.i2l, 1) := by decide +kernel
theorem kd_B_account_73 : decode kc_B_account 73 = .ok (.lreturn, 1) := by decide +kernel
theorem kd_B_account_74 : decode kc_B_account 74 = .ok (.aload_n 0, 1) := by decide +kernel
theorem kd_B_account_75 : decode kc_B_account 75 = .ok (.getfield 65, 3) := by decide +kernel
theorem kd_B_account_78 : decode kc_B_account 78 = .ok (.getfield 263, 3) := by decide +kernel
theorem kd_B_account_81 : decode kc_B_account 81 = .ok (.iload_n 1, 1) := by decide +kernel
theorem kd_B_account_82 : decode kc_B_account 82 = .ok (.iaload, 1) := by decide +kernel
theorem kd_B_account_83 : decode kc_B_account 83 = .ok (.i2l, 1) := by decide +kernel
theorem kd_B_account_84 : decode kc_B_account 84 = .ok (.lreturn, 1) := by decide +kernel
theorem kd_B_account_85 : decode kc_B_account 85 = .ok (.aload_n 0, 1) := by decide +kernel
theorem kd_B_account_86 : decode kc_B_account 86 = .ok (.getfield 65, 3) := by decide +kernel
theorem kd_B_account_89 : decode kc_B_account 89 = .ok (.getfield 269, 3) := by decide +kernel
theorem kd_B_account_92 : decode kc_B_account 92 = .ok (.iload_n 1, 1) := by decide +kernel
theorem kd_B_account_93 : decode kc_B_account 93 = .ok (.iaload, 1) := by decide +kernel
theorem kd_B_account_94 : decode kc_B_account 94 = .ok (.i2l, 1) := by decide +kernel
theorem kd_B_account_95 : decode kc_B_account 95 = .ok (.lreturn, 1) := by decide +kernel
theorem kd_B_account_96 : decode kc_B_account 96 = .ok (.aload_n 0, 1) := by decide +kernel
theorem kd_B_account_97 : decode kc_B_account 97 = .ok (.getfield 65, 3) := by decide +kernel
theorem kd_B_account_100 : decode kc_B_account 100 = .ok (.getfield 272, 3) := by decide +kernel
theorem kd_B_account_103 : decode kc_B_account 103 = .ok (.iload_n 1, 1) := by decide +kernel
theorem kd_B_account_104 : decode kc_B_account 104 = .ok (.iaload, 1) := by decide +kernel
theorem kd_B_account_105 : decode kc_B_account 105 = .ok (.i2l, 1) := by decide +kernel
theorem kd_B_account_106 : decode kc_B_account 106 = .ok (.lreturn, 1) := by decide +kernel
theorem kd_B_account_107 : decode kc_B_account 107 = .ok (.aload_n 0, 1) := by decide +kernel
theorem kd_B_account_108 : decode kc_B_account 108 = .ok (.getfield 58, 3) := by decide +kernel
theorem kd_B_account_111 : decode kc_B_account 111 = .ok (.iload_n 1, 1) := by decide +kernel
theorem kd_B_account_112 : decode kc_B_account 112 = .ok (.iconst 1, 1) := by decide +kernel
theorem kd_B_account_113 : decode kc_B_account 113 = .ok (.invokevirtual 251, 3) := by decide +kernel
theorem kd_B_account_116 : decode kc_B_account 116 = .ok (.i2l, 1) := by decide +kernel
theorem kd_B_account_117 : decode kc_B_account 117 = .ok (.lreturn, 1) := by decide +kernel
theorem kd_B_books_0 : decode kc_B_books 0 = .ok (.iload_n 1, 1) := by decide +kernel
theorem kd_B_books_1 : decode kc_B_books 1 = .ok (.iconst 0, 1) := by decide +kernel
