theorem kd_B_books_2 : decode kc_B_books 2 = .ok (.iconst 1, 1) := by decide +kernel
theorem kd_B_books_3 : decode kc_B_books 3 = .ok (.invokestatic 94, 3) := by decide +kernel
theorem kd_B_books_6 : decode kc_B_books 6 = .ok (.invokestatic 73, 3) := by decide +kernel
theorem kd_B_books_9 : decode kc_B_books 9 = .ok (.iload_n 1, 1) := by decide +kernel
theorem kd_B_books_10 : decode kc_B_books 10 = .ok (.ifCond .ne 13, 3) := by decide +kernel
theorem kd_B_books_13 : decode kc_B_books 13 = .ok (.aload_n 0, 1) := by decide +kernel
theorem kd_B_books_14 : decode kc_B_books 14 = .ok (.getfield 65, 3) := by decide +kernel
theorem kd_B_books_17 : decode kc_B_books 17 = .ok (.getfield 259, 3) := by decide +kernel
theorem kd_B_books_20 : decode kc_B_books 20 = .ok (.goto 10, 3) := by decide +kernel
theorem kd_B_books_23 : decode kc_B_books 23 = .ok (.aload_n 0, 1) := by decide +kernel
theorem kd_B_books_24 : decode kc_B_books 24 = .ok (.getfield 65, 3) := by decide +kernel
theorem kd_B_books_27 : decode kc_B_books 27 = .ok (.getfield 266, 3) := by decide +kernel
theorem kd_B_books_30 : decode kc_B_books 30 = .ok (.lreturn, 1) := by decide +kernel
