theorem kd_M_lot_100 : decode kc_M_lot 100 = .ok (.iload_n 1, 1) := by decide +kernel
theorem kd_M_lot_101 : decode kc_M_lot 101 = .ok (.laload, 1) := by decide +kernel
theorem kd_M_lot_102 : decode kc_M_lot 102 = .ok (.lreturn, 1) := by decide +kernel
theorem kd_M_lot_103 : decode kc_M_lot 103 = .ok (.aload_n 0, 1) := by decide +kernel
theorem kd_M_lot_104 : decode kc_M_lot 104 = .ok (.getfield 175, 3) := by decide +kernel
theorem kd_M_lot_107 : decode kc_M_lot 107 = .ok (.iload_n 1, 1) := by decide +kernel
theorem kd_M_lot_108 : decode kc_M_lot 108 = .ok (.baload, 1) := by decide +kernel
theorem kd_M_lot_109 : decode kc_M_lot 109 = .ok (.ifCond .eq 7, 3) := by decide +kernel
theorem kd_M_lot_112 : decode kc_M_lot 112 = .ok (.lconst 1, 1) := by decide +kernel
theorem kd_M_lot_113 : decode kc_M_lot 113 = .ok (.goto 4, 3) := by decide +kernel
theorem kd_M_lot_116 : decode kc_M_lot 116 = .ok (.lconst 0, 1) := by decide +kernel
theorem kd_M_lot_117 : decode kc_M_lot 117 = .ok (.lreturn, 1) := by decide +kernel
theorem kd_M_came_0 : decode kc_M_came 0 = .ok (.iconst 0, 1) := by decide +kernel
theorem kd_M_came_1 : decode kc_M_came 1 = .ok (.istore_n 3, 1) := by decide +kernel
theorem kd_M_came_2 : decode kc_M_came 2 = .ok (.iconst 0, 1) := by decide +kernel
theorem kd_M_came_3 : decode kc_M_came 3 = .ok (.istore 4, 2) := by decide +kernel
theorem kd_M_came_5 : decode kc_M_came 5 = .ok (.iload 4, 2) := by decide +kernel
theorem kd_M_came_7 : decode kc_M_came 7 = .ok (.aload_n 0, 1) := by decide +kernel
theorem kd_M_came_8 : decode kc_M_came 8 = .ok (.getfield 299, 3) := by decide +kernel
theorem kd_M_came_11 : decode kc_M_came 11 = .ok (.if_icmp .ge 55, 3) := by decide +kernel
theorem kd_M_came_14 : decode kc_M_came 14 = .ok (.aload_n 0, 1) := by decide +kernel
theorem kd_M_came_15 : decode kc_M_came 15 = .ok (.getfield 163, 3) := by decide +kernel
theorem kd_M_came_18 : decode kc_M_came 18 = .ok (.iload 4, 2) := by decide +kernel
theorem kd_M_came_20 : decode kc_M_came 20 = .ok (.iaload, 1) := by decide +kernel
theorem kd_M_came_21 : decode kc_M_came 21 = .ok (.iload_n 1, 1) := by decide +kernel
theorem kd_M_came_22 : decode kc_M_came 22 = .ok (.if_icmp .ne 36, 3) := by decide +kernel
theorem kd_M_came_25 : decode kc_M_came 25 = .ok (.aload_n 0, 1) := by decide +kernel
theorem kd_M_came_26 : decode kc_M_came 26 = .ok (.getfield 175, 3) := by decide +kernel
theorem kd_M_came_29 : decode kc_M_came 29 = .ok (.iload 4, 2) := by decide +kernel
theorem kd_M_came_31 : decode kc_M_came 31 = .ok (.baload, 1) := by decide +kernel
theorem kd_M_came_32 : decode kc_M_came 32 = .ok (.ifCond .eq 26, 3) := by decide +kernel
theorem kd_M_came_35 : decode kc_M_came 35 = .ok (.aload_n 0, 1) := by decide +kernel
theorem kd_M_came_36 : decode kc_M_came 36 = .ok (.getfield 178, 3) := by decide +kernel
theorem kd_M_came_39 : decode kc_M_came 39 = .ok (.iload 4, 2) := by decide +kernel
theorem kd_M_came_41 : decode kc_M_came 41 = .ok (.baload, 1) := by decide +kernel
theorem kd_M_came_42 : decode kc_M_came 42 = .ok (.iload_n 2, 1) := by decide +kernel
theorem kd_M_came_43 : decode kc_M_came 43 = .ok (.if_icmp .ne 15, 3) := by decide +kernel
theorem kd_M_came_46 : decode kc_M_came 46 = .ok (.iload_n 3, 1) := by decide +kernel
theorem kd_M_came_47 : decode kc_M_came 47 = .ok (.aload_n 0, 1) := by decide +kernel
theorem kd_M_came_48 : decode kc_M_came 48 = .ok (.getfield 166, 3) := by decide +kernel
theorem kd_M_came_51 : decode kc_M_came 51 = .ok (.iload 4, 2) := by decide +kernel
theorem kd_M_came_53 : decode kc_M_came 53 = .ok (.iaload, 1) := by decide +kernel
theorem kd_M_came_54 : decode kc_M_came 54 = .ok (.iadd, 1) := by decide +kernel
theorem kd_M_came_55 : decode kc_M_came 55 = .ok (.goto 4, 3) := by decide +kernel
theorem kd_M_came_58 : decode kc_M_came 58 = .ok (.iload_n 3, 1) := by decide +kernel
theorem kd_M_came_59 : decode kc_M_came 59 = .ok (.istore_n 3, 1) := by decide +kernel
theorem kd_M_came_60 : decode kc_M_came 60 = .ok (.iinc 4 1, 3) := by decide +kernel
theorem kd_M_came_63 : decode kc_M_came 63 = .ok (.goto (-58), 3) := by decide +kernel
theorem kd_M_came_66 : decode kc_M_came 66 = .ok (.iload_n 3, 1) := by decide +kernel
theorem kd_M_came_67 : decode kc_M_came 67 = .ok (.ireturn, 1) := by decide +kernel
theorem kd_M_account_0 : decode kc_M_account 0 = .ok (.aload_n 0, 1) := by decide +kernel
theorem kd_M_account_1 : decode kc_M_account 1 = .ok (.iload_n 1, 1) := by decide +kernel
theorem kd_M_account_2 : decode kc_M_account 2 = .ok (.iconst 0, 1) := by decide +kernel
theorem kd_M_account_3 : decode kc_M_account 3 = .ok (.bipush 15, 2) := by decide +kernel
theorem kd_M_account_5 : decode kc_M_account 5 = .ok (.invokestatic 204, 3) := by decide +kernel
theorem kd_M_account_8 : decode kc_M_account 8 = .ok (.ifCond .eq 16, 3) := by decide +kernel
theorem kd_M_account_11 : decode kc_M_account 11 = .ok (.iload_n 2, 1) := by decide +kernel
theorem kd_M_account_12 : decode kc_M_account 12 = .ok (.iconst 0, 1) := by decide +kernel
theorem kd_M_account_13 : decode kc_M_account 13 = .ok (.iconst 5, 1) := by decide +kernel
theorem kd_M_account_14 : decode kc_M_account 14 = .ok (.invokestatic 204, 3) := by decide +kernel
theorem kd_M_account_17 : decode kc_M_account 17 = .ok (.ifCond .eq 7, 3) := by decide +kernel
theorem kd_M_account_20 : decode kc_M_account 20 = .ok (.iconst 0, 1) := by decide +kernel
theorem kd_M_account_21 : decode kc_M_account 21 = .ok (.goto 4, 3) := by decide +kernel
theorem kd_M_account_24 : decode kc_M_account 24 = .ok (.iconst 1, 1) := by decide +kernel
theorem kd_M_account_25 : decode kc_M_account 25 = .ok (.putfield 190, 3) := by decide +kernel
theorem kd_M_account_28 : decode kc_M_account 28 = .ok (.aload_n 0, 1) := by decide +kernel
theorem kd_M_account_29 : decode kc_M_account 29 = .ok (.getfield 190, 3) := by decide +kernel
theorem kd_M_account_32 : decode kc_M_account 32 = .ok (.ifCond .le 5, 3) := by decide +kernel
theorem kd_M_account_35 : decode kc_M_account 35 = .ok (.lconst 0, 1) := by decide +kernel
theorem kd_M_account_36 : decode kc_M_account 36 = .ok (.lreturn, 1) := by decide +kernel
theorem kd_M_account_37 : decode kc_M_account 37 = .ok (.iload_n 2, 1) := by decide +kernel
theorem kd_M_account_38 : decode kc_M_account 38 = .ok (.tableswitch 74 0 4 #[34, 42, 50, 58, 66], 34) := by decide +kernel
theorem kd_M_account_72 : decode kc_M_account 72 = .ok (.aload_n 0, 1) := by decide +kernel
theorem kd_M_account_73 : decode kc_M_account 73 = .ok (.iload_n 1, 1) := by decide +kernel
theorem kd_M_account_74 : decode kc_M_account 74 = .ok (.iconst 0, 1) := by decide +kernel
theorem kd_M_account_75 : decode kc_M_account 75 = .ok (.invokevirtual 330, 3) := by decide +kernel
theorem kd_M_account_78 : decode kc_M_account 78 = .ok (.i2l, 1) := by decide +kernel
theorem kd_M_account_79 : decode kc_M_account 79 = .ok (.lreturn, 1) := by decide +kernel
theorem kd_M_account_80 : decode kc_M_account 80 = .ok (.aload_n 0, 1) := by decide +kernel
theorem kd_M_account_81 : decode kc_M_account 81 = .ok (.iload_n 1, 1) := by decide +kernel
theorem kd_M_account_82 : decode kc_M_account 82 = .ok (.iconst 1, 1) := by decide +kernel
theorem kd_M_account_83 : decode kc_M_account 83 = .ok (.invokevirtual 330, 3) := by decide +kernel
theorem kd_M_account_86 : decode kc_M_account 86 = .ok (.i2l, 1) := by decide +kernel
theorem kd_M_account_87 : decode kc_M_account 87 = .ok (.lreturn, 1) := by decide +kernel
theorem kd_M_account_88 : decode kc_M_account 88 = .ok (.aload_n 0, 1) := by decide +kernel
theorem kd_M_account_89 : decode kc_M_account 89 = .ok (.getfield 181, 3) := by decide +kernel
theorem kd_M_account_92 : decode kc_M_account 92 = .ok (.iload_n 1, 1) := by decide +kernel
theorem kd_M_account_93 : decode kc_M_account 93 = .ok (.iaload, 1) := by decide +kernel
theorem kd_M_account_94 : decode kc_M_account 94 = .ok (.i2l, 1) := by decide +kernel
theorem kd_M_account_95 : decode kc_M_account 95 = .ok (.lreturn, 1) := by decide +kernel
theorem kd_M_account_96 : decode kc_M_account 96 = .ok (.aload_n 0, 1) := by decide +kernel
theorem kd_M_account_97 : decode kc_M_account 97 = .ok (.getfield 184, 3) := by decide +kernel
theorem kd_M_account_100 : decode kc_M_account 100 = .ok (.iload_n 1, 1) := by decide +kernel
theorem kd_M_account_101 : decode kc_M_account 101 = .ok (.iaload, 1) := by decide +kernel
theorem kd_M_account_102 : decode kc_M_account 102 = .ok (.i2l, 1) := by decide +kernel
theorem kd_M_account_103 : decode kc_M_account 103 = .ok (.lreturn, 1) := by decide +kernel
theorem kd_M_account_104 : decode kc_M_account 104 = .ok (.aload_n 0, 1) := by decide +kernel
theorem kd_M_account_105 : decode kc_M_account 105 = .ok (.getfield 187, 3) := by decide +kernel
theorem kd_M_account_108 : decode kc_M_account 108 = .ok (.iload_n 1, 1) := by decide +kernel
theorem kd_M_account_109 : decode kc_M_account 109 = .ok (.iaload, 1) := by decide +kernel
theorem kd_M_account_110 : decode kc_M_account 110 = .ok (.i2l, 1) := by decide +kernel
theorem kd_M_account_111 : decode kc_M_account 111 = .ok (.lreturn, 1) := by decide +kernel
theorem kd_M_account_112 : decode kc_M_account 112 = .ok (.aload_n 0, 1) := by decide +kernel
theorem kd_M_account_113 : decode kc_M_account 113 = .ok (.iload_n 1, 1) := by decide +kernel
theorem kd_M_account_114 : decode kc_M_account 114 = .ok (.iconst 1, 1) := by decide +kernel
theorem kd_M_account_115 : decode kc_M_account 115 = .ok (.invokevirtual 319, 3) := by decide +kernel
theorem kd_M_account_118 : decode kc_M_account 118 = .ok (.i2l, 1) := by decide +kernel
theorem kd_M_account_119 : decode kc_M_account 119 = .ok (.lreturn, 1) := by decide +kernel
theorem kd_M_books_0 : decode kc_M_books 0 = .ok (.aload_n 0, 1) := by decide +kernel
theorem kd_M_books_1 : decode kc_M_books 1 = .ok (.iload_n 1, 1) := by decide +kernel
theorem kd_M_books_2 : decode kc_M_books 2 = .ok (.iconst 0, 1) := by decide +kernel
theorem kd_M_books_3 : decode kc_M_books 3 = .ok (.iconst 1, 1) := by decide +kernel
theorem kd_M_books_4 : decode kc_M_books 4 = .ok (.invokestatic 204, 3) := by decide +kernel
theorem kd_M_books_7 : decode kc_M_books 7 = .ok (.ifCond .eq 7, 3) := by decide +kernel
theorem kd_M_books_10 : decode kc_M_books 10 = .ok (.iconst 0, 1) := by decide +kernel
theorem kd_M_books_11 : decode kc_M_books 11 = .ok (.goto 4, 3) := by decide +kernel
theorem kd_M_books_14 : decode kc_M_books 14 = .ok (.iconst 1, 1) := by decide +kernel
theorem kd_M_books_15 : decode kc_M_books 15 = .ok (.putfield 190, 3) := by decide +kernel
theorem kd_M_books_18 : decode kc_M_books 18 = .ok (.aload_n 0, 1) := by decide +kernel
theorem kd_M_books_19 : decode kc_M_books 19 = .ok (.getfield 190, 3) := by decide +kernel
theorem kd_M_books_22 : decode kc_M_books 22 = .ok (.ifCond .le 7, 3) := by decide +kernel
theorem kd_M_books_25 : decode kc_M_books 25 = .ok (.lconst 0, 1) := by decide +kernel
theorem kd_M_books_26 : decode kc_M_books 26 = .ok (.goto 18, 3) := by decide +kernel
theorem kd_M_books_29 : decode kc_M_books 29 = .ok (.iload_n 1, 1) := by decide +kernel
theorem kd_M_books_30 : decode kc_M_books 30 = .ok (.ifCond .ne 10, 3) := by decide +kernel
theorem kd_M_books_33 : decode kc_M_books 33 = .ok (.aload_n 0, 1) := by decide +kernel
theorem kd_M_books_34 : decode kc_M_books 34 = .ok (.getfield 312, 3) := by decide +kernel
theorem kd_M_books_37 : decode kc_M_books 37 = .ok (.goto 7, 3) := by decide +kernel
theorem kd_M_books_40 : decode kc_M_books 40 = .ok (.aload_n 0, 1) := by decide +kernel
theorem kd_M_books_41 : decode kc_M_books 41 = .ok (.getfield 327, 3) := by decide +kernel
theorem kd_M_books_44 : decode kc_M_books 44 = .ok (.lreturn, 1) := by decide +kernel
