theorem d_SE_run_0 : decode b_SE_run 0 = .ok (.iconst 1, 1) := by decide +kernel
theorem d_SE_run_1 : decode b_SE_run 1 = .ok (.istore 4, 2) := by decide +kernel
theorem d_SE_run_3 : decode b_SE_run 3 = .ok (.iload_n 1, 1) := by decide +kernel
theorem d_SE_run_4 : decode b_SE_run 4 = .ok (.istore 5, 2) := by decide +kernel
theorem d_SE_run_6 : decode b_SE_run 6 = .ok (.iload 5, 2) := by decide +kernel
theorem d_SE_run_8 : decode b_SE_run 8 = .ok (.iload_n 2, 1) := by decide +kernel
theorem d_SE_run_9 : decode b_SE_run 9 = .ok (.if_icmp .gt 29, 3) := by decide +kernel
theorem d_SE_run_12 : decode b_SE_run 12 = .ok (.iload 4, 2) := by decide +kernel
theorem d_SE_run_14 : decode b_SE_run 14 = .ok (.ifCond .eq 24, 3) := by decide +kernel
theorem d_SE_run_17 : decode b_SE_run 17 = .ok (.aload_n 3, 1) := by decide +kernel
theorem d_SE_run_18 : decode b_SE_run 18 = .ok (.invokevirtual 73, 3) := by decide +kernel
theorem d_SE_run_21 : decode b_SE_run 21 = .ok (.aload_n 0, 1) := by decide +kernel
theorem d_SE_run_22 : decode b_SE_run 22 = .ok (.iconst 0, 1) := by decide +kernel
theorem d_SE_run_23 : decode b_SE_run 23 = .ok (.iload 5, 2) := by decide +kernel
theorem d_SE_run_25 : decode b_SE_run 25 = .ok (.iconst 0, 1) := by decide +kernel
theorem d_SE_run_26 : decode b_SE_run 26 = .ok (.aload_n 3, 1) := by decide +kernel
theorem d_SE_run_27 : decode b_SE_run 27 = .ok (.invokevirtual 78, 3) := by decide +kernel
theorem d_SE_run_30 : decode b_SE_run 30 = .ok (.istore 4, 2) := by decide +kernel
theorem d_SE_run_32 : decode b_SE_run 32 = .ok (.iinc 5 1, 3) := by decide +kernel
theorem d_SE_run_35 : decode b_SE_run 35 = .ok (.goto (-29), 3) := by decide +kernel
theorem d_SE_run_38 : decode b_SE_run 38 = .ok (.return_, 1) := by decide +kernel
