theorem kd_B_lot_65 : decode kc_B_lot 65 = .ok (.i2l, 1) := by decide +kernel
theorem kd_B_lot_66 : decode kc_B_lot 66 = .ok (.lreturn, 1) := by decide +kernel
theorem kd_B_lot_67 : decode kc_B_lot 67 = .ok (.aload_n 0, 1) := by decide +kernel
theorem kd_B_lot_68 : decode kc_B_lot 68 = .ok (.getfield 58, 3) := by decide +kernel
theorem kd_B_lot_71 : decode kc_B_lot 71 = .ok (.getfield 281, 3) := by decide +kernel
theorem kd_B_lot_74 : decode kc_B_lot 74 = .ok (.iload_n 1, 1) := by decide +kernel
theorem kd_B_lot_75 : decode kc_B_lot 75 = .ok (.iaload, 1) := by decide +kernel
theorem kd_B_lot_76 : decode kc_B_lot 76 = .ok (.i2l, 1) := by decide +kernel
theorem kd_B_lot_77 : decode kc_B_lot 77 = .ok (.lreturn, 1) := by decide +kernel
theorem kd_B_lot_78 : decode kc_B_lot 78 = .ok (.aload_n 0, 1) := by decide +kernel
theorem kd_B_lot_79 : decode kc_B_lot 79 = .ok (.getfield 58, 3) := by decide +kernel
theorem kd_B_lot_82 : decode kc_B_lot 82 = .ok (.getfield 284, 3) := by decide +kernel
theorem kd_B_lot_85 : decode kc_B_lot 85 = .ok (.iload_n 1, 1) := by decide +kernel
theorem kd_B_lot_86 : decode kc_B_lot 86 = .ok (.iaload, 1) := by decide +kernel
theorem kd_B_lot_87 : decode kc_B_lot 87 = .ok (.i2l, 1) := by decide +kernel
theorem kd_B_lot_88 : decode kc_B_lot 88 = .ok (.lreturn, 1) := by decide +kernel
theorem kd_B_lot_89 : decode kc_B_lot 89 = .ok (.aload_n 0, 1) := by decide +kernel
theorem kd_B_lot_90 : decode kc_B_lot 90 = .ok (.getfield 58, 3) := by decide +kernel
theorem kd_B_lot_93 : decode kc_B_lot 93 = .ok (.getfield 287, 3) := by decide +kernel
theorem kd_B_lot_96 : decode kc_B_lot 96 = .ok (.iload_n 1, 1) := by decide +kernel
theorem kd_B_lot_97 : decode kc_B_lot 97 = .ok (.laload, 1) := by decide +kernel
theorem kd_B_lot_98 : decode kc_B_lot 98 = .ok (.lreturn, 1) := by decide +kernel
theorem kd_B_lot_99 : decode kc_B_lot 99 = .ok (.aload_n 0, 1) := by decide +kernel
theorem kd_B_lot_100 : decode kc_B_lot 100 = .ok (.getfield 58, 3) := by decide +kernel
theorem kd_B_lot_103 : decode kc_B_lot 103 = .ok (.getfield 288, 3) := by decide +kernel
theorem kd_B_lot_106 : decode kc_B_lot 106 = .ok (.iload_n 1, 1) := by decide +kernel
theorem kd_B_lot_107 : decode kc_B_lot 107 = .ok (.baload, 1) := by decide +kernel
theorem kd_B_lot_108 : decode kc_B_lot 108 = .ok (.ifCond .eq 7, 3) := by decide +kernel
theorem kd_B_lot_111 : decode kc_B_lot 111 = .ok (.lconst 1, 1) := by decide +kernel
theorem kd_B_lot_112 : decode kc_B_lot 112 = .ok (.goto 4, 3) := by decide +kernel
theorem kd_B_lot_115 : decode kc_B_lot 115 = .ok (.lconst 0, 1) := by decide +kernel
theorem kd_B_lot_116 : decode kc_B_lot 116 = .ok (.lreturn, 1) := by decide +kernel
theorem kd_B_account_0 : decode kc_B_account 0 = .ok (.iload_n 1, 1) := by decide +kernel
theorem kd_B_account_1 : decode kc_B_account 1 = .ok (.invokestatic 105, 3) := by decide +kernel
theorem kd_B_account_4 : decode kc_B_account 4 = .ok (.invokestatic 73, 3) := by decide +kernel
theorem kd_B_account_7 : decode kc_B_account 7 = .ok (.iload_n 2, 1) := by decide +kernel
theorem kd_B_account_8 : decode kc_B_account 8 = .ok (.iconst 0, 1) := by decide +kernel
theorem kd_B_account_9 : decode kc_B_account 9 = .ok (.iconst 5, 1) := by decide +kernel
theorem kd_B_account_10 : decode kc_B_account 10 = .ok (.invokestatic 94, 3) := by decide +kernel
theorem kd_B_account_13 : decode kc_B_account 13 = .ok (.invokestatic 73, 3) := by decide +kernel
theorem kd_B_account_16 : decode kc_B_account 16 = .ok (.iload_n 2, 1) := by decide +kernel
theorem kd_B_account_17 : decode kc_B_account 17 = .ok (.tableswitch 90 0 4 #[35, 46, 57, 68, 79], 35) := by decide +kernel
theorem kd_B_account_52 : decode kc_B_account 52 = .ok (.aload_n 0, 1) := by decide +kernel
theorem kd_B_account_53 : decode kc_B_account 53 = .ok (.getfield 58, 3) := by decide +kernel
theorem kd_B_account_56 : decode kc_B_account 56 = .ok (.iload_n 1, 1) := by decide +kernel
theorem kd_B_account_57 : decode kc_B_account 57 = .ok (.iconst 0, 1) := by decide +kernel
theorem kd_B_account_58 : decode kc_B_account 58 = .ok (.invokevirtual 291, 3) := by decide +kernel
theorem kd_B_account_61 : decode kc_B_account 61 = .ok (.i2l, 1) := by decide +kernel
theorem kd_B_account_62 : decode kc_B_account 62 = .ok (.lreturn, 1) := by decide +kernel
theorem kd_B_account_63 : decode kc_B_account 63 = .ok (.aload_n 0, 1) := by decide +kernel
theorem kd_B_account_64 : decode kc_B_account 64 = .ok (.getfield 58, 3) := by decide +kernel
theorem kd_B_account_67 : decode kc_B_account 67 = .ok (.iload_n 1, 1) := by decide +kernel
theorem kd_B_account_68 : decode kc_B_account 68 = .ok (.iconst 1, 1) := by decide +kernel
theorem kd_B_account_69 : decode kc_B_account 69 = .ok (.invokevirtual 291, 3) := by decide +kernel
theorem kd_B_account_72 : decode kc_B_account 72 = .ok (.i2l, 1) := by decide +kernel
theorem kd_B_account_73 : decode kc_B_account 73 = .ok (.lreturn, 1) := by decide +kernel
theorem kd_B_account_74 : decode kc_B_account 74 = .ok (.aload_n 0, 1) := by decide +kernel
theorem kd_B_account_75 : decode kc_B_account 75 = .ok (.getfield 65, 3) := by decide +kernel
theorem kd_B_account_78 : decode kc_B_account 78 = .ok (.getfield 263, 3) := by decide +kernel
theorem kd_B_account_81 : decode kc_B_account 81 = .ok (.iload_n 1, 1) := by decide +kernel
theorem kd_B_account_82 : decode kc_B_account 82 = .ok (.iaload, 1) := by decide +kernel
theorem kd_B_account_83 : decode kc_B_account 83 = .ok (.i2l, 1) := by decide +kernel
theorem kd_B_account_84 : decode kc_B_account 84 = .ok (.lreturn, 1) := by decide +kernel
theorem kd_B_account_85 : decode kc_B_account 85 = .ok (.aload_n 0, 1) := by decide +kernel
theorem kd_B_account_86 : decode kc_B_account 86 = .ok (.getfield 65, 3) := by decide +kernel
theorem kd_B_account_89 : decode kc_B_account 89 = .ok (.getfield 269, 3) := by decide +kernel
theorem kd_B_account_92 : decode kc_B_account 92 = .ok (.iload_n 1, 1) := by decide +kernel
theorem kd_B_account_93 : decode kc_B_account 93 = .ok (.iaload, 1) := by decide +kernel
theorem kd_B_account_94 : decode kc_B_account 94 = .ok (.i2l, 1) := by decide +kernel
theorem kd_B_account_95 : decode kc_B_account 95 = .ok (.lreturn, 1) := by decide +kernel
theorem kd_B_account_96 : decode kc_B_account 96 = .ok (.aload_n 0, 1) := by decide +kernel
theorem kd_B_account_97 : decode kc_B_account 97 = .ok (.getfield 65, 3) := by decide +kernel
theorem kd_B_account_100 : decode kc_B_account 100 = .ok (.getfield 272, 3) := by decide +kernel
theorem kd_B_account_103 : decode kc_B_account 103 = .ok (.iload_n 1, 1) := by decide +kernel
theorem kd_B_account_104 : decode kc_B_account 104 = .ok (.iaload, 1) := by decide +kernel
theorem kd_B_account_105 : decode kc_B_account 105 = .ok (.i2l, 1) := by decide +kernel
theorem kd_B_account_106 : decode kc_B_account 106 = .ok (.lreturn, 1) := by decide +kernel
theorem kd_B_account_107 : decode kc_B_account 107 = .ok (.aload_n 0, 1) := by decide +kernel
theorem kd_B_account_108 : decode kc_B_account 108 = .ok (.getfield 58, 3) := by decide +kernel
theorem kd_B_account_111 : decode kc_B_account 111 = .ok (.iload_n 1, 1) := by decide +kernel
theorem kd_B_account_112 : decode kc_B_account 112 = .ok (.iconst 1, 1) := by decide +kernel
theorem kd_B_account_113 : decode kc_B_account 113 = .ok (.invokevirtual 251, 3) := by decide +kernel
theorem kd_B_account_116 : decode kc_B_account 116 = .ok (.i2l, 1) := by decide +kernel
theorem kd_B_account_117 : decode kc_B_account 117 = .ok (.lreturn, 1) := by decide +kernel
theorem kd_B_books_0 : decode kc_B_books 0 = .ok (.iload_n 1, 1) := by decide +kernel
theorem kd_B_books_1 : decode kc_B_books 1 = .ok (.iconst 0, 1) := by decide +kernel
theorem kd_B_books_2 : decode kc_B_books 2 = .ok (.iconst 1, 1) := by decide +kernel
theorem kd_B_books_3 : decode kc_B_books 3 = .ok (.invokestatic 94, 3) := by decide +kernel
theorem kd_B_books_6 : decode kc_B_books 6 = .ok (.invokestatic 73, 3) := by decide +kernel
theorem kd_B_books_9 : decode kc_B_books 9 = .ok (.iload_n 1, 1) := by decide +kernel
theorem kd_B_books_10 : decode kc_B_books 10 = .ok (.ifCond .ne 13, 3) := by decide +kernel
theorem kd_B_books_13 : decode kc_B_books 13 = .ok (.aload_n 0, 1) := by decide +kernel
theorem kd_B_books_14 : decode kc_B_books 14 = .ok (.getfield 65, 3) := by decide +kernel
theorem kd_B_books_17 : decode kc_B_books 17 = .ok (.getfield 259, 3) := by decide +kernel
theorem kd_B_books_20 : decode kc_B_books 20 = .ok (.goto 10, 3) := by decide +kernel
theorem kd_B_books_23 : decode kc_B_books 23 = .ok (.aload_n 0, 1) := by decide +kernel
theorem kd_B_books_24 : decode kc_B_books 24 = .ok (.getfield 65, 3) := by decide +kernel
theorem kd_B_books_27 : decode kc_B_books 27 = .ok (.getfield 266, 3) := by decide +kernel
theorem kd_B_books_30 : decode kc_B_books 30 = .ok (.lreturn, 1) := by decide +kernel
