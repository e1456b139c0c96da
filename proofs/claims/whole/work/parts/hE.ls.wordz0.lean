theorem d_LS_read_0 : decode b_LS_read 0 = .ok (.aload_n 0, 1) := by decide +kernel
theorem d_LS_read_1 : decode b_LS_read 1 = .ok (.invokevirtual 99, 3) := by decide +kernel
theorem d_LS_read_4 : decode b_LS_read 4 = .ok (.istore_n 1, 1) := by decide +kernel
theorem d_LS_read_5 : decode b_LS_read 5 = .ok (.aload_n 0, 1) := by decide +kernel
theorem d_LS_read_6 : decode b_LS_read 6 = .ok (.getfield 10, 3) := by decide +kernel
theorem d_LS_read_9 : decode b_LS_read 9 = .ok (.iconst 0, 1) := by decide +kernel
theorem d_LS_read_10 : decode b_LS_read 10 = .ok (.putfield 96, 3) := by decide +kernel
theorem d_LS_read_13 : decode b_LS_read 13 = .ok (.iload_n 1, 1) := by decide +kernel
theorem d_LS_read_14 : decode b_LS_read 14 = .ok (.ifCond .ne 7, 3) := by decide +kernel
theorem d_LS_read_17 : decode b_LS_read 17 = .ok (.aload_n 0, 1) := by decide +kernel
theorem d_LS_read_18 : decode b_LS_read 18 = .ok (.invokevirtual 103, 3) := by decide +kernel
theorem d_LS_read_21 : decode b_LS_read 21 = .ok (.iload_n 1, 1) := by decide +kernel
theorem d_LS_read_22 : decode b_LS_read 22 = .ok (.ireturn, 1) := by decide +kernel
