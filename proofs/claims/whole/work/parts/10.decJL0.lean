theorem d_JL_compare_0 : decode c_JL_compare 0 = .ok (.lload_n 0, 1) := by decide +kernel
theorem d_JL_compare_1 : decode c_JL_compare 1 = .ok (.lload_n 2, 1) := by decide +kernel
theorem d_JL_compare_2 : decode c_JL_compare 2 = .ok (.lcmp, 1) := by decide +kernel
theorem d_JL_compare_3 : decode c_JL_compare 3 = .ok (.ifCond .ge 7, 3) := by decide +kernel
theorem d_JL_compare_6 : decode c_JL_compare 6 = .ok (.iconst (-1), 1) := by decide +kernel
theorem d_JL_compare_7 : decode c_JL_compare 7 = .ok (.goto 14, 3) := by decide +kernel
theorem d_JL_compare_10 : decode c_JL_compare 10 = .ok (.lload_n 0, 1) := by decide +kernel
theorem d_JL_compare_11 : decode c_JL_compare 11 = .ok (.lload_n 2, 1) := by decide +kernel
theorem d_JL_compare_12 : decode c_JL_compare 12 = .ok (.lcmp, 1) := by decide +kernel
theorem d_JL_compare_13 : decode c_JL_compare 13 = .ok (.ifCond .ne 7, 3) := by decide +kernel
theorem d_JL_compare_16 : decode c_JL_compare 16 = .ok (.iconst 0, 1) := by decide +kernel
theorem d_JL_compare_17 : decode c_JL_compare 17 = .ok (.goto 4, 3) := by decide +kernel
theorem d_JL_compare_20 : decode c_JL_compare 20 = .ok (.iconst 1, 1) := by decide +kernel
theorem d_JL_compare_21 : decode c_JL_compare 21 = .ok (.ireturn, 1) := by decide +kernel
