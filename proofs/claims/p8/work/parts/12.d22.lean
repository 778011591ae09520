theorem kd_W_declare_16 : decode kc_W_declare 16 = .ok (.ireturn, 1) := by decide +kernel
theorem kd_W_declare_17 : decode kc_W_declare 17 = .ok (.astore 4, 2) := by decide +kernel
theorem kd_W_declare_19 : decode kc_W_declare 19 = .ok (.iconst 2, 1) := by decide +kernel
theorem kd_W_declare_20 : decode kc_W_declare 20 = .ok (.ireturn, 1) := by decide +kernel
theorem kd_W_declare_21 : decode kc_W_declare 21 = .ok (.iconst 0, 1) := by decide +kernel
theorem kd_W_declare_22 : decode kc_W_declare 22 = .ok (.ireturn, 1) := by decide +kernel
theorem kd_W_line_0 : decode kc_W_line 0 = .ok (.aload 8, 2) := by decide +kernel
theorem kd_W_line_2 : decode kc_W_line 2 = .ok (.iconst 0, 1) := by decide +kernel
theorem kd_W_line_3 : decode kc_W_line 3 = .ok (.aload_n 0, 1) := by decide +kernel
theorem kd_W_line_4 : decode kc_W_line 4 = .ok (.iload_n 1, 1) := by decide +kernel
theorem kd_W_line_5 : decode kc_W_line 5 = .ok (.iload_n 2, 1) := by decide +kernel
theorem kd_W_line_6 : decode kc_W_line 6 = .ok (.iload_n 3, 1) := by decide +kernel
theorem kd_W_line_7 : decode kc_W_line 7 = .ok (.iload 4, 2) := by decide +kernel
theorem kd_W_line_9 : decode kc_W_line 9 = .ok (.iload 5, 2) := by decide +kernel
theorem kd_W_line_11 : decode kc_W_line 11 = .ok (.iload 6, 2) := by decide +kernel
theorem kd_W_line_13 : decode kc_W_line 13 = .ok (.iload 7, 2) := by decide +kernel
theorem kd_W_line_15 : decode kc_W_line 15 = .ok (.invokevirtual 61, 3) := by decide +kernel
theorem kd_W_line_18 : decode kc_W_line 18 = .ok (.i2l, 1) := by decide +kernel
theorem kd_W_line_19 : decode kc_W_line 19 = .ok (.lastore, 1) := by decide +kernel
theorem kd_W_line_20 : decode kc_W_line 20 = .ok (.goto 11, 3) := by decide +kernel
theorem kd_W_line_23 : decode kc_W_line 23 = .ok (.astore 9, 2) := by decide +kernel
theorem kd_W_line_25 : decode kc_W_line 25 = .ok (.iconst 1, 1) := by decide +kernel
theorem kd_W_line_26 : decode kc_W_line 26 = .ok (.ireturn, 1) := by decide +kernel
theorem kd_W_line_27 : decode kc_W_line 27 = .ok (.astore 9, 2) := by decide +kernel
theorem kd_W_line_29 : decode kc_W_line 29 = .ok (.iconst 2, 1) := by decide +kernel
theorem kd_W_line_30 : decode kc_W_line 30 = .ok (.ireturn, 1) := by decide +kernel
theorem kd_W_line_31 : decode kc_W_line 31 = .ok (.iconst 0, 1) := by decide +kernel
theorem kd_W_line_32 : decode kc_W_line 32 = .ok (.ireturn, 1) := by decide +kernel
theorem kd_W_charge_0 : decode kc_W_charge 0 = .ok (.aload_n 0, 1) := by decide +kernel
theorem kd_W_charge_1 : decode kc_W_charge 1 = .ok (.iload_n 1, 1) := by decide +kernel
theorem kd_W_charge_2 : decode kc_W_charge 2 = .ok (.iload_n 2, 1) := by decide +kernel
theorem kd_W_charge_3 : decode kc_W_charge 3 = .ok (.iload_n 3, 1) := by decide +kernel
theorem kd_W_charge_4 : decode kc_W_charge 4 = .ok (.invokevirtual 65, 3) := by decide +kernel
theorem kd_W_charge_7 : decode kc_W_charge 7 = .ok (.goto 11, 3) := by decide +kernel
theorem kd_W_charge_10 : decode kc_W_charge 10 = .ok (.astore 4, 2) := by decide +kernel
theorem kd_W_charge_12 : decode kc_W_charge 12 = .ok (.iconst 1, 1) := by decide +kernel
theorem kd_W_charge_13 : decode kc_W_charge 13 = .ok (.ireturn, 1) := by decide +kernel
theorem kd_W_charge_14 : decode kc_W_charge 14 = .ok (.astore 4, 2) := by decide +kernel
theorem kd_W_charge_16 : decode kc_W_charge 16 = .ok (.iconst 2, 1) := by decide +kernel
theorem kd_W_charge_17 : decode kc_W_charge 17 = .ok (.ireturn, 1) := by decide +kernel
theorem kd_W_charge_18 : decode kc_W_charge 18 = .ok (.iconst 0, 1) := by decide +kernel
theorem kd_W_charge_19 : decode kc_W_charge 19 = .ok (.ireturn, 1) := by decide +kernel
theorem kd_W_lineOf_0 : decode kc_W_lineOf 0 = .ok (.aload 4, 2) := by decide +kernel
theorem kd_W_lineOf_2 : decode kc_W_lineOf 2 = .ok (.iconst 0, 1) := by decide +kernel
theorem kd_W_lineOf_3 : decode kc_W_lineOf 3 = .ok (.aload_n 0, 1) := by decide +kernel
theorem kd_W_lineOf_4 : decode kc_W_lineOf 4 = .ok (.iload_n 1, 1) := by decide +kernel
theorem kd_W_lineOf_5 : decode kc_W_lineOf 5 = .ok (.iload_n 2, 1) := by decide +kernel
theorem kd_W_lineOf_6 : decode kc_W_lineOf 6 = .ok (.iload_n 3, 1) := by decide +kernel
theorem kd_W_lineOf_7 : decode kc_W_lineOf 7 = .ok (.invokevirtual 68, 3) := by decide +kernel
theorem kd_W_lineOf_10 : decode kc_W_lineOf 10 = .ok (.lastore, 1) := by decide +kernel
theorem kd_W_lineOf_11 : decode kc_W_lineOf 11 = .ok (.goto 11, 3) := by decide +kernel
theorem kd_W_lineOf_14 : decode kc_W_lineOf 14 = .ok (.astore 5, 2) := by decide +kernel
theorem kd_W_lineOf_16 : decode kc_W_lineOf 16 = .ok (.iconst 1, 1) := by decide +kernel
theorem kd_W_lineOf_17 : decode kc_W_lineOf 17 = .ok (.ireturn, 1) := by decide +kernel
theorem kd_W_lineOf_18 : decode kc_W_lineOf 18 = .ok (.astore 5, 2) := by decide +kernel
theorem kd_W_lineOf_20 : decode kc_W_lineOf 20 = .ok (.iconst 2, 1) := by decide +kernel
theorem kd_W_lineOf_21 : decode kc_W_lineOf 21 = .ok (.ireturn, 1) := by decide +kernel
theorem kd_W_lineOf_22 : decode kc_W_lineOf 22 = .ok (.iconst 0, 1) := by decide +kernel
theorem kd_W_lineOf_23 : decode kc_W_lineOf 23 = .ok (.ireturn, 1) := by decide +kernel
theorem kd_W_accept_0 : decode kc_W_accept 0 = .ok (.aload_n 2, 1) := by decide +kernel
theorem kd_W_accept_1 : decode kc_W_accept 1 = .ok (.iconst 0, 1) := by decide +kernel
theorem kd_W_accept_2 : decode kc_W_accept 2 = .ok (.aload_n 0, 1) := by decide +kernel
theorem kd_W_accept_3 : decode kc_W_accept 3 = .ok (.iload_n 1, 1) := by decide +kernel
theorem kd_W_accept_4 : decode kc_W_accept 4 = .ok (.invokevirtual 74, 3) := by decide +kernel
theorem kd_W_accept_7 : decode kc_W_accept 7 = .ok (.lastore, 1) := by decide +kernel
theorem kd_W_accept_8 : decode kc_W_accept 8 = .ok (.goto 15, 3) := by decide +kernel
theorem kd_W_accept_11 : decode kc_W_accept 11 = .ok (.astore_n 3, 1) := by decide +kernel
theorem kd_W_accept_12 : decode kc_W_accept 12 = .ok (.iconst 1, 1) := by decide +kernel
theorem kd_W_accept_13 : decode kc_W_accept 13 = .ok (.ireturn, 1) := by decide +kernel
theorem kd_W_accept_14 : decode kc_W_accept 14 = .ok (.astore_n 3, 1) := by decide +kernel
theorem kd_W_accept_15 : decode kc_W_accept 15 = .ok (.iconst 2, 1) := by decide +kernel
theorem kd_W_accept_16 : decode kc_W_accept 16 = .ok (.ireturn, 1) := by decide +kernel
theorem kd_W_accept_17 : decode kc_W_accept 17 = .ok (.astore_n 3, 1) := by decide +kernel
theorem kd_W_accept_18 : decode kc_W_accept 18 = .ok (.iconst 3, 1) := by decide +kernel
theorem kd_W_accept_19 : decode kc_W_accept 19 = .ok (.ireturn, 1) := by decide +kernel
theorem kd_W_accept_20 : decode kc_W_accept 20 = .ok (.astore_n 3, 1) := by decide +kernel
theorem kd_W_accept_21 : decode kc_W_accept 21 = .ok (.iconst 4, 1) := by decide +kernel
theorem kd_W_accept_22 : decode kc_W_accept 22 = .ok (.ireturn, 1) := by decide +kernel
theorem kd_W_accept_23 : decode kc_W_accept 23 = .ok (.iconst 0, 1) := by decide +kernel
theorem kd_W_accept_24 : decode kc_W_accept 24 = .ok (.ireturn, 1) := by decide +kernel
theorem kd_W_amend_0 : decode kc_W_amend 0 = .ok (.aload 5, 2) := by decide +kernel
theorem kd_W_amend_2 : decode kc_W_amend 2 = .ok (.iconst 0, 1) := by decide +kernel
theorem kd_W_amend_3 : decode kc_W_amend 3 = .ok (.aload_n 0, 1) := by decide +kernel
theorem kd_W_amend_4 : decode kc_W_amend 4 = .ok (.iload_n 1, 1) := by decide +kernel
theorem kd_W_amend_5 : decode kc_W_amend 5 = .ok (.iload_n 2, 1) := by decide +kernel
theorem kd_W_amend_6 : decode kc_W_amend 6 = .ok (.iload_n 3, 1) := by decide +kernel
theorem kd_W_amend_7 : decode kc_W_amend 7 = .ok (.iload 4, 2) := by decide +kernel
theorem kd_W_amend_9 : decode kc_W_amend 9 = .ok (.invokevirtual 80, 3) := by decide +kernel
theorem kd_W_amend_12 : decode kc_W_amend 12 = .ok (.lastore, 1) := by decide +kernel
theorem kd_W_amend_13 : decode kc_W_amend 13 = .ok (.goto 15, 3) := by decide +kernel
theorem kd_W_amend_16 : decode kc_W_amend 16 = .ok (.astore 6, 2) := by decide +kernel
theorem kd_W_amend_18 : decode kc_W_amend 18 = .ok (.iconst 1, 1) := by decide +kernel
theorem kd_W_amend_19 : decode kc_W_amend 19 = .ok (.ireturn, 1) := by decide +kernel
theorem kd_W_amend_20 : decode kc_W_amend 20 = .ok (.astore 6, 2) := by decide +kernel
theorem kd_W_amend_22 : decode kc_W_amend 22 = .ok (.iconst 2, 1) := by decide +kernel
theorem kd_W_amend_23 : decode kc_W_amend 23 = .ok (.ireturn, 1) := by decide +kernel
theorem kd_W_amend_24 : decode kc_W_amend 24 = .ok (.astore 6, 2) := by decide +kernel
theorem kd_W_amend_26 : decode kc_W_amend 26 = .ok (.iconst 3, 1) := by decide +kernel
theorem kd_W_amend_27 : decode kc_W_amend 27 = .ok (.ireturn, 1) := by decide +kernel
theorem kd_W_amend_28 : decode kc_W_amend 28 = .ok (.iconst 0, 1) := by decide +kernel
theorem kd_W_amend_29 : decode kc_W_amend 29 = .ok (.ireturn, 1) := by decide +kernel
theorem kd_W_release_0 : decode kc_W_release 0 = .ok (.aload_n 3, 1) := by decide +kernel
theorem kd_W_release_1 : decode kc_W_release 1 = .ok (.iconst 0, 1) := by decide +kernel
theorem kd_W_release_2 : decode kc_W_release 2 = .ok (.aload_n 0, 1) := by decide +kernel
theorem kd_W_release_3 : decode kc_W_release 3 = .ok (.iload_n 1, 1) := by decide +kernel
theorem kd_W_release_4 : decode kc_W_release 4 = .ok (.iload_n 2, 1) := by decide +kernel
theorem kd_W_release_5 : decode kc_W_release 5 = .ok (.invokevirtual 84, 3) := by decide +kernel
theorem kd_W_release_8 : decode kc_W_release 8 = .ok (.lastore, 1) := by decide +kernel
theorem kd_W_release_9 : decode kc_W_release 9 = .ok (.goto 11, 3) := by decide +kernel
theorem kd_W_release_12 : decode kc_W_release 12 = .ok (.astore 4, 2) := by decide +kernel
theorem kd_W_release_14 : decode kc_W_release 14 = .ok (.iconst 1, 1) := by decide +kernel
theorem kd_W_release_15 : decode kc_W_release 15 = .ok (.ireturn, 1) := by decide +kernel
theorem kd_W_release_16 : decode kc_W_release 16 = .ok (.astore 4, 2) := by decide +kernel
theorem kd_W_release_18 : decode kc_W_release 18 = .ok (.iconst 2, 1) := by decide +kernel
theorem kd_W_release_19 : decode kc_W_release 19 = .ok (.ireturn, 1) := by decide +kernel
theorem kd_W_release_20 : decode kc_W_release 20 = .ok (.iconst 0, 1) := by decide +kernel
theorem kd_W_release_21 : decode kc_W_release 21 = .ok (.ireturn, 1) := by decide +kernel
theorem kd_W_export_0 : decode kc_W_export 0 = .ok (.aload_n 3, 1) := by decide +kernel
theorem kd_W_export_1 : decode kc_W_export 1 = .ok (.iconst 0, 1) := by decide +kernel
theorem kd_W_export_2 : decode kc_W_export 2 = .ok (.aload_n 0, 1) := by decide +kernel
theorem kd_W_export_3 : decode kc_W_export 3 = .ok (.iload_n 1, 1) := by decide +kernel
theorem kd_W_export_4 : decode kc_W_export 4 = .ok (.iload_n 2, 1) := by decide +kernel
theorem kd_W_export_5 : decode kc_W_export 5 = .ok (.invokevirtual 88, 3) := by decide +kernel
theorem kd_W_export_8 : decode kc_W_export 8 = .ok (.lastore, 1) := by decide +kernel
theorem kd_W_export_9 : decode kc_W_export 9 = .ok (.goto 11, 3) := by decide +kernel
theorem kd_W_export_12 : decode kc_W_export 12 = .ok (.astore 4, 2) := by decide +kernel
theorem kd_W_export_14 : decode kc_W_export 14 = .ok (.iconst 1, 1) := by decide +kernel
theorem kd_W_export_15 : decode kc_W_export 15 = .ok (.ireturn, 1) := by decide +kernel
theorem kd_W_export_16 : decode kc_W_export 16 = .ok (.astore 4, 2) := by decide +kernel
theorem kd_W_export_18 : decode kc_W_export 18 = .ok (.iconst 2, 1) := by decide +kernel
theorem kd_W_export_19 : decode kc_W_export 19 = .ok (.ireturn, 1) := by decide +kernel
theorem kd_W_export_20 : decode kc_W_export 20 = .ok (.iconst 0, 1) := by decide +kernel
theorem kd_W_export_21 : decode kc_W_export 21 = .ok (.ireturn, 1) := by decide +kernel
theorem kd_W_work_0 : decode kc_W_work 0 = .ok (.aload 5, 2) := by decide +kernel
theorem kd_W_work_2 : decode kc_W_work 2 = .ok (.iconst 0, 1) := by decide +kernel
theorem kd_W_work_3 : decode kc_W_work 3 = .ok (.aload_n 0, 1) := by decide +kernel
theorem kd_W_work_4 : decode kc_W_work 4 = .ok (.iload_n 1, 1) := by decide +kernel
theorem kd_W_work_5 : decode kc_W_work 5 = .ok (.iload_n 2, 1) := by decide +kernel
theorem kd_W_work_6 : decode kc_W_work 6 = .ok (.iload_n 3, 1) := by decide +kernel
theorem kd_W_work_7 : decode kc_W_work 7 = .ok (.iload 4, 2) := by decide +kernel
theorem kd_W_work_9 : decode kc_W_work 9 = .ok (.invokevirtual 91, 3) := by decide +kernel
theorem kd_W_work_12 : decode kc_W_work 12 = .ok (.i2l, 1) := by decide +kernel
theorem kd_W_work_13 : decode kc_W_work 13 = .ok (.lastore, 1) := by decide +kernel
theorem kd_W_work_14 : decode kc_W_work 14 = .ok (.goto 15, 3) := by decide +kernel
theorem kd_W_work_17 : decode kc_W_work 17 = .ok (.astore 6, 2) := by decide +kernel
theorem kd_W_work_19 : decode kc_W_work 19 = .ok (.iconst 1, 1) := by decide +kernel
theorem kd_W_work_20 : decode kc_W_work 20 = .ok (.ireturn, 1) := by decide +kernel
theorem kd_W_work_21 : decode kc_W_work 21 = .ok (.astore 6, 2) := by decide +kernel
theorem kd_W_work_23 : decode kc_W_work 23 = .ok (.iconst 2, 1) := by decide +kernel
theorem kd_W_work_24 : decode kc_W_work 24 = .ok (.ireturn, 1) := by decide +kernel
theorem kd_W_work_25 : decode kc_W_work 25 = .ok (.astore 6, 2) := by decide +kernel
theorem kd_W_work_27 : decode kc_W_work 27 = .ok (.iconst 3, 1) := by decide +kernel
theorem kd_W_work_28 : decode kc_W_work 28 = .ok (.ireturn, 1) := by decide +kernel
theorem kd_W_work_29 : decode kc_W_work 29 = .ok (.iconst 0, 1) := by decide +kernel
theorem kd_W_work_30 : decode kc_W_work 30 = .ok (.ireturn, 1) := by decide +kernel
theorem kd_W_lot_0 : decode kc_W_lot 0 = .ok (.aload_n 3, 1) := by decide +kernel
theorem kd_W_lot_1 : decode kc_W_lot 1 = .ok (.iconst 0, 1) := by decide +kernel
theorem kd_W_lot_2 : decode kc_W_lot 2 = .ok (.aload_n 0, 1) := by decide +kernel
theorem kd_W_lot_3 : decode kc_W_lot 3 = .ok (.iload_n 1, 1) := by decide +kernel
theorem kd_W_lot_4 : decode kc_W_lot 4 = .ok (.iload_n 2, 1) := by decide +kernel
theorem kd_W_lot_5 : decode kc_W_lot 5 = .ok (.invokevirtual 94, 3) := by decide +kernel
theorem kd_W_lot_8 : decode kc_W_lot 8 = .ok (.lastore, 1) := by decide +kernel
theorem kd_W_lot_9 : decode kc_W_lot 9 = .ok (.goto 7, 3) := by decide +kernel
theorem kd_W_lot_12 : decode kc_W_lot 12 = .ok (.astore 4, 2) := by decide +kernel
theorem kd_W_lot_14 : decode kc_W_lot 14 = .ok (.iconst 1, 1) := by decide +kernel
theorem kd_W_lot_15 : decode kc_W_lot 15 = .ok (.ireturn, 1) := by decide +kernel
theorem kd_W_lot_16 : decode kc_W_lot 16 = .ok (.iconst 0, 1) := by decide +kernel
theorem kd_W_lot_17 : decode kc_W_lot 17 = .ok (.ireturn, 1) := by decide +kernel
theorem kd_W_account_0 : decode kc_W_account 0 = .ok (.aload_n 3, 1) := by decide +kernel
theorem kd_W_account_1 : decode kc_W_account 1 = .ok (.iconst 0, 1) := by decide +kernel
theorem kd_W_account_2 : decode kc_W_account 2 = .ok (.aload_n 0, 1) := by decide +kernel
theorem kd_W_account_3 : decode kc_W_account 3 = .ok (.iload_n 1, 1) := by decide +kernel
theorem kd_W_account_4 : decode kc_W_account 4 = .ok (.iload_n 2, 1) := by decide +kernel
theorem kd_W_account_5 : decode kc_W_account 5 = .ok (.invokevirtual 97, 3) := by decide +kernel
theorem kd_W_account_8 : decode kc_W_account 8 = .ok (.lastore, 1) := by decide +kernel
theorem kd_W_account_9 : decode kc_W_account 9 = .ok (.goto 7, 3) := by decide +kernel
theorem kd_W_account_12 : decode kc_W_account 12 = .ok (.astore 4, 2) := by decide +kernel
theorem kd_W_account_14 : decode kc_W_account 14 = .ok (.iconst 1, 1) := by decide +kernel
theorem kd_W_account_15 : decode kc_W_account 15 = .ok (.ireturn, 1) := by decide +kernel
theorem kd_W_account_16 : decode kc_W_account 16 = .ok (.iconst 0, 1) := by decide +kernel
theorem kd_W_account_17 : decode kc_W_account 17 = .ok (.ireturn, 1) := by decide +kernel
theorem kd_W_books_0 : decode kc_W_books 0 = .ok (.aload_n 2, 1) := by decide +kernel
theorem kd_W_books_1 : decode kc_W_books 1 = .ok (.iconst 0, 1) := by decide +kernel
theorem kd_W_books_2 : decode kc_W_books 2 = .ok (.aload_n 0, 1) := by decide +kernel
theorem kd_W_books_3 : decode kc_W_books 3 = .ok (.iload_n 1, 1) := by decide +kernel
theorem kd_W_books_4 : decode kc_W_books 4 = .ok (.invokevirtual 100, 3) := by decide +kernel
theorem kd_W_books_7 : decode kc_W_books 7 = .ok (.lastore, 1) := by decide +kernel
theorem kd_W_books_8 : decode kc_W_books 8 = .ok (.goto 6, 3) := by decide +kernel
theorem kd_W_books_11 : decode kc_W_books 11 = .ok (.astore_n 3, 1) := by decide +kernel
theorem kd_W_books_12 : decode kc_W_books 12 = .ok (.iconst 1, 1) := by decide +kernel
theorem kd_W_books_13 : decode kc_W_books 13 = .ok (.ireturn, 1) := by decide +kernel
theorem kd_W_books_14 : decode kc_W_books 14 = .ok (.iconst 0, 1) := by decide +kernel
theorem kd_W_books_15 : decode kc_W_books 15 = .ok (.ireturn, 1) := by decide +kernel
