theorem d_LS_at_22 : decode b_LS_at 22 = .ok (.new 118, 3) := by decide +kernel
theorem d_LS_at_25 : decode b_LS_at 25 = .ok (.dup, 1) := by decide +kernel
theorem d_LS_at_26 : decode b_LS_at 26 = .ok (.invokespecial 120, 3) := by decide +kernel
theorem d_LS_at_29 : decode b_LS_at 29 = .ok (.athrow, 1) := by decide +kernel
