theorem d_LS_best_60 : decode b_LS_best 60 = .ok (.new 219, 3) := by decide +kernel
theorem d_LS_best_63 : decode b_LS_best 63 = .ok (.dup, 1) := by decide +kernel
theorem d_LS_best_64 : decode b_LS_best 64 = .ok (.invokespecial 221, 3) := by decide +kernel
theorem d_LS_best_67 : decode b_LS_best 67 = .ok (.athrow, 1) := by decide +kernel
