theorem d_LS_work_9 : decode b_LS_work 9 = .ok (.new 146, 3) := by decide +kernel
theorem d_LS_work_12 : decode b_LS_work 12 = .ok (.dup, 1) := by decide +kernel
theorem d_LS_work_13 : decode b_LS_work 13 = .ok (.invokespecial 148, 3) := by decide +kernel
theorem d_LS_work_16 : decode b_LS_work 16 = .ok (.athrow, 1) := by decide +kernel
