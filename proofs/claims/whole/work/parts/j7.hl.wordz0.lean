theorem d_LW_work_0 : decode b_LW_work 0 = .ok (.aload_n 3, 1) := by decide +kernel
theorem d_LW_work_1 : decode b_LW_work 1 = .ok (.iconst 0, 1) := by decide +kernel
theorem d_LW_work_2 : decode b_LW_work 2 = .ok (.aload_n 0, 1) := by decide +kernel
theorem d_LW_work_3 : decode b_LW_work 3 = .ok (.iload_n 1, 1) := by decide +kernel
theorem d_LW_work_4 : decode b_LW_work 4 = .ok (.iload_n 2, 1) := by decide +kernel
theorem d_LW_work_5 : decode b_LW_work 5 = .ok (.invokevirtual 28, 3) := by decide +kernel
theorem d_LW_work_8 : decode b_LW_work 8 = .ok (.i2l, 1) := by decide +kernel
theorem d_LW_work_9 : decode b_LW_work 9 = .ok (.lastore, 1) := by decide +kernel
theorem d_LW_work_10 : decode b_LW_work 10 = .ok (.goto 11, 3) := by decide +kernel
theorem d_LW_work_13 : decode b_LW_work 13 = .ok (.astore 4, 2) := by decide +kernel
theorem d_LW_work_15 : decode b_LW_work 15 = .ok (.iconst 1, 1) := by decide +kernel
theorem d_LW_work_16 : decode b_LW_work 16 = .ok (.ireturn, 1) := by decide +kernel
theorem d_LW_work_17 : decode b_LW_work 17 = .ok (.astore 4, 2) := by decide +kernel
theorem d_LW_work_19 : decode b_LW_work 19 = .ok (.iconst 2, 1) := by decide +kernel
theorem d_LW_work_20 : decode b_LW_work 20 = .ok (.ireturn, 1) := by decide +kernel
theorem d_LW_work_21 : decode b_LW_work 21 = .ok (.iconst 0, 1) := by decide +kernel
theorem d_LW_work_22 : decode b_LW_work 22 = .ok (.ireturn, 1) := by decide +kernel
