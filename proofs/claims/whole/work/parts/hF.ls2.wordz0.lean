theorem d_LS_work_23 : decode b_LS_work 23 = .ok (.bipush 10, 2) := by decide +kernel
theorem d_LS_work_25 : decode b_LS_work 25 = .ok (.goto 5, 3) := by decide +kernel
theorem d_LS_work_89 : decode b_LS_work 89 = .ok (.iconst 1, 1) := by decide +kernel
theorem d_LS_work_90 : decode b_LS_work 90 = .ok (.goto 4, 3) := by decide +kernel
