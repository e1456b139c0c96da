theorem d_LS_tell_2 : decode b_LS_tell 2 = .ok (.invokevirtual 138, 3) := by decide +kernel
theorem d_LS_tell_5 : decode b_LS_tell 5 = .ok (.iload_n 2, 1) := by decide +kernel
theorem d_LS_tell_6 : decode b_LS_tell 6 = .ok (.invokestatic 178, 3) := by decide +kernel
theorem d_LS_tell_9 : decode b_LS_tell 9 = .ok (.aload_n 0, 1) := by decide +kernel
theorem d_LS_tell_10 : decode b_LS_tell 10 = .ok (.getfield 57, 3) := by decide +kernel
theorem d_LS_tell_13 : decode b_LS_tell 13 = .ok (.iload_n 1, 1) := by decide +kernel
theorem d_LS_tell_14 : decode b_LS_tell 14 = .ok (.iload_n 2, 1) := by decide +kernel
theorem d_LS_tell_15 : decode b_LS_tell 15 = .ok (.iastore, 1) := by decide +kernel
theorem d_LS_tell_16 : decode b_LS_tell 16 = .ok (.return_, 1) := by decide +kernel
theorem d_LS_times_0 : decode b_LS_times 0 = .ok (.aload_n 0, 1) := by decide +kernel
theorem d_LS_times_1 : decode b_LS_times 1 = .ok (.getfield 81, 3) := by decide +kernel
theorem d_LS_times_4 : decode b_LS_times 4 = .ok (.ifCond .eq 25, 3) := by decide +kernel
theorem d_LS_times_7 : decode b_LS_times 7 = .ok (.aload_n 0, 1) := by decide +kernel
theorem d_LS_times_8 : decode b_LS_times 8 = .ok (.getfield 46, 3) := by decide +kernel
theorem d_LS_times_11 : decode b_LS_times 11 = .ok (.iconst 0, 1) := by decide +kernel
theorem d_LS_times_12 : decode b_LS_times 12 = .ok (.aaload, 1) := by decide +kernel
theorem d_LS_times_13 : decode b_LS_times 13 = .ok (.iload_n 1, 1) := by decide +kernel
theorem d_LS_times_14 : decode b_LS_times 14 = .ok (.invokevirtual 170, 3) := by decide +kernel
theorem d_LS_times_17 : decode b_LS_times 17 = .ok (.ifCond .eq 12, 3) := by decide +kernel
theorem d_LS_times_20 : decode b_LS_times 20 = .ok (.aload_n 0, 1) := by decide +kernel
theorem d_LS_times_21 : decode b_LS_times 21 = .ok (.getfield 64, 3) := by decide +kernel
theorem d_LS_times_24 : decode b_LS_times 24 = .ok (.iload_n 1, 1) := by decide +kernel
theorem d_LS_times_25 : decode b_LS_times 25 = .ok (.iaload, 1) := by decide +kernel
theorem d_LS_times_26 : decode b_LS_times 26 = .ok (.goto 4, 3) := by decide +kernel
theorem d_LS_times_29 : decode b_LS_times 29 = .ok (.iconst (-1), 1) := by decide +kernel
theorem d_LS_times_30 : decode b_LS_times 30 = .ok (.ireturn, 1) := by decide +kernel
