theorem d_LW_best_0 : decode b_LW_best 0 = .ok (.aload_n 2, 1) := by decide +kernel
theorem d_LW_best_1 : decode b_LW_best 1 = .ok (.iconst 0, 1) := by decide +kernel
theorem d_LW_best_2 : decode b_LW_best 2 = .ok (.aload_n 0, 1) := by decide +kernel
theorem d_LW_best_3 : decode b_LW_best 3 = .ok (.iload_n 1, 1) := by decide +kernel
theorem d_LW_best_4 : decode b_LW_best 4 = .ok (.invokevirtual 47, 3) := by decide +kernel
theorem d_LW_best_7 : decode b_LW_best 7 = .ok (.i2l, 1) := by decide +kernel
theorem d_LW_best_8 : decode b_LW_best 8 = .ok (.lastore, 1) := by decide +kernel
theorem d_LW_best_9 : decode b_LW_best 9 = .ok (.goto 12, 3) := by decide +kernel
theorem d_LW_best_12 : decode b_LW_best 12 = .ok (.astore_n 3, 1) := by decide +kernel
theorem d_LW_best_13 : decode b_LW_best 13 = .ok (.iconst 1, 1) := by decide +kernel
theorem d_LW_best_14 : decode b_LW_best 14 = .ok (.ireturn, 1) := by decide +kernel
theorem d_LW_best_15 : decode b_LW_best 15 = .ok (.astore_n 3, 1) := by decide +kernel
theorem d_LW_best_16 : decode b_LW_best 16 = .ok (.iconst 2, 1) := by decide +kernel
theorem d_LW_best_17 : decode b_LW_best 17 = .ok (.ireturn, 1) := by decide +kernel
theorem d_LW_best_18 : decode b_LW_best 18 = .ok (.astore_n 3, 1) := by decide +kernel
theorem d_LW_best_19 : decode b_LW_best 19 = .ok (.iconst 3, 1) := by decide +kernel
theorem d_LW_best_20 : decode b_LW_best 20 = .ok (.ireturn, 1) := by decide +kernel
theorem d_LW_best_21 : decode b_LW_best 21 = .ok (.iconst 0, 1) := by decide +kernel
theorem d_LW_best_22 : decode b_LW_best 22 = .ok (.ireturn, 1) := by decide +kernel
