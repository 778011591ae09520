theorem kd_W_law_1947 : decode kc_W_law 1947 = .ok (.lload 6, 2) := by decide +kernel
theorem kd_W_law_1949 : decode kc_W_law 1949 = .ok (.lcmp, 1) := by decide +kernel
theorem kd_W_law_1950 : decode kc_W_law 1950 = .ok (.ifCond .eq 5, 3) := by decide +kernel
theorem kd_W_law_1953 : decode kc_W_law 1953 = .ok (.iconst 0, 1) := by decide +kernel
theorem kd_W_law_1954 : decode kc_W_law 1954 = .ok (.ireturn, 1) := by decide +kernel
theorem kd_W_law_1955 : decode kc_W_law 1955 = .ok (.goto 58, 3) := by decide +kernel
theorem kd_W_law_1958 : decode kc_W_law 1958 = .ok (.aload_n 1, 1) := by decide +kernel
theorem kd_W_law_1959 : decode kc_W_law 1959 = .ok (.aload_n 0, 1) := by decide +kernel
theorem kd_W_law_1960 : decode kc_W_law 1960 = .ok (.iload 4, 2) := by decide +kernel
theorem kd_W_law_1962 : decode kc_W_law 1962 = .ok (.iconst 1, 1) := by decide +kernel
theorem kd_W_law_1963 : decode kc_W_law 1963 = .ok (.iadd, 1) := by decide +kernel
theorem kd_W_law_1964 : decode kc_W_law 1964 = .ok (.iaload, 1) := by decide +kernel
theorem kd_W_law_1965 : decode kc_W_law 1965 = .ok (.aload_n 3, 1) := by decide +kernel
theorem kd_W_law_1966 : decode kc_W_law 1966 = .ok (.invokestatic 191, 3) := by decide +kernel
theorem kd_W_law_1969 : decode kc_W_law 1969 = .ok (.istore 5, 2) := by decide +kernel
theorem kd_W_law_1971 : decode kc_W_law 1971 = .ok (.aload_n 2, 1) := by decide +kernel
theorem kd_W_law_1972 : decode kc_W_law 1972 = .ok (.aload_n 0, 1) := by decide +kernel
theorem kd_W_law_1973 : decode kc_W_law 1973 = .ok (.iload 4, 2) := by decide +kernel
theorem kd_W_law_1975 : decode kc_W_law 1975 = .ok (.iconst 1, 1) := by decide +kernel
theorem kd_W_law_1976 : decode kc_W_law 1976 = .ok (.iadd, 1) := by decide +kernel
theorem kd_W_law_1977 : decode kc_W_law 1977 = .ok (.iaload, 1) := by decide +kernel
theorem kd_W_law_1978 : decode kc_W_law 1978 = .ok (.invokevirtual 193, 3) := by decide +kernel
theorem kd_W_law_1981 : decode kc_W_law 1981 = .ok (.lstore 6, 2) := by decide +kernel
theorem kd_W_law_1983 : decode kc_W_law 1983 = .ok (.aload_n 2, 1) := by decide +kernel
theorem kd_W_law_1984 : decode kc_W_law 1984 = .ok (.invokevirtual 113, 3) := by decide +kernel
theorem kd_W_law_1987 : decode kc_W_law 1987 = .ok (.iload 5, 2) := by decide +kernel
theorem kd_W_law_1989 : decode kc_W_law 1989 = .ok (.if_icmp .eq 5, 3) := by decide +kernel
theorem kd_W_law_1992 : decode kc_W_law 1992 = .ok (.iconst 0, 1) := by decide +kernel
theorem kd_W_law_1993 : decode kc_W_law 1993 = .ok (.ireturn, 1) := by decide +kernel
theorem kd_W_law_1994 : decode kc_W_law 1994 = .ok (.iload 5, 2) := by decide +kernel
theorem kd_W_law_1996 : decode kc_W_law 1996 = .ok (.ifCond .ne 14, 3) := by decide +kernel
theorem kd_W_law_1999 : decode kc_W_law 1999 = .ok (.aload_n 3, 1) := by decide +kernel
theorem kd_W_law_2000 : decode kc_W_law 2000 = .ok (.iconst 0, 1) := by decide +kernel
theorem kd_W_law_2001 : decode kc_W_law 2001 = .ok (.laload, 1) := by decide +kernel
theorem kd_W_law_2002 : decode kc_W_law 2002 = .ok (.lload 6, 2) := by decide +kernel
theorem kd_W_law_2004 : decode kc_W_law 2004 = .ok (.lcmp, 1) := by decide +kernel
theorem kd_W_law_2005 : decode kc_W_law 2005 = .ok (.ifCond .eq 5, 3) := by decide +kernel
theorem kd_W_law_2008 : decode kc_W_law 2008 = .ok (.iconst 0, 1) := by decide +kernel
theorem kd_W_law_2009 : decode kc_W_law 2009 = .ok (.ireturn, 1) := by decide +kernel
theorem kd_W_law_2010 : decode kc_W_law 2010 = .ok (.goto 3, 3) := by decide +kernel
theorem kd_W_law_2013 : decode kc_W_law 2013 = .ok (.iinc 4 8, 3) := by decide +kernel
theorem kd_W_law_2016 : decode kc_W_law 2016 = .ok (.goto (-1993), 3) := by decide +kernel
theorem kd_W_law_2019 : decode kc_W_law 2019 = .ok (.iconst 1, 1) := by decide +kernel
theorem kd_W_law_2020 : decode kc_W_law 2020 = .ok (.ireturn, 1) := by decide +kernel
