theorem d_JM_max_0 : decode c_JM_max 0 = .ok (.lload_n 0, 1) := by decide +kernel
theorem d_JM_max_1 : decode c_JM_max 1 = .ok (.lload_n 2, 1) := by decide +kernel
theorem d_JM_max_2 : decode c_JM_max 2 = .ok (.lcmp, 1) := by decide +kernel
theorem d_JM_max_3 : decode c_JM_max 3 = .ok (.ifCond .lt 7, 3) := by decide +kernel
theorem d_JM_max_6 : decode c_JM_max 6 = .ok (.lload_n 0, 1) := by decide +kernel
theorem d_JM_max_7 : decode c_JM_max 7 = .ok (.goto 4, 3) := by decide +kernel
theorem d_JM_max_10 : decode c_JM_max 10 = .ok (.lload_n 2, 1) := by decide +kernel
theorem d_JM_max_11 : decode c_JM_max 11 = .ok (.lreturn, 1) := by decide +kernel
