theorem d_LS_work_83 : decode b_LS_work 83 = .ok (.iconst 0, 1) := by decide +kernel
theorem d_LS_work_106 : decode b_LS_work 106 = .ok (.iconst 0, 1) := by decide +kernel
theorem d_LS_work_107 : decode b_LS_work 107 = .ok (.goto 4, 3) := by decide +kernel
