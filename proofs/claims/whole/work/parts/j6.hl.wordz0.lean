theorem d_LW_at_0 : decode b_LW_at 0 = .ok (.aload 4, 2) := by decide +kernel
theorem d_LW_at_2 : decode b_LW_at 2 = .ok (.iconst 0, 1) := by decide +kernel
theorem d_LW_at_3 : decode b_LW_at 3 = .ok (.aload_n 0, 1) := by decide +kernel
theorem d_LW_at_4 : decode b_LW_at 4 = .ok (.iload_n 1, 1) := by decide +kernel
theorem d_LW_at_5 : decode b_LW_at 5 = .ok (.iload_n 2, 1) := by decide +kernel
theorem d_LW_at_6 : decode b_LW_at 6 = .ok (.iload_n 3, 1) := by decide +kernel
theorem d_LW_at_7 : decode b_LW_at 7 = .ok (.invokevirtual 33, 3) := by decide +kernel
theorem d_LW_at_10 : decode b_LW_at 10 = .ok (.i2l, 1) := by decide +kernel
theorem d_LW_at_11 : decode b_LW_at 11 = .ok (.lastore, 1) := by decide +kernel
theorem d_LW_at_12 : decode b_LW_at 12 = .ok (.goto 7, 3) := by decide +kernel
theorem d_LW_at_15 : decode b_LW_at 15 = .ok (.astore 5, 2) := by decide +kernel
theorem d_LW_at_17 : decode b_LW_at 17 = .ok (.iconst 1, 1) := by decide +kernel
theorem d_LW_at_18 : decode b_LW_at 18 = .ok (.ireturn, 1) := by decide +kernel
theorem d_LW_at_19 : decode b_LW_at 19 = .ok (.iconst 0, 1) := by decide +kernel
theorem d_LW_at_20 : decode b_LW_at 20 = .ok (.ireturn, 1) := by decide +kernel
theorem d_LW_cost_0 : decode b_LW_cost 0 = .ok (.aload_n 0, 1) := by decide +kernel
theorem d_LW_cost_1 : decode b_LW_cost 1 = .ok (.iload_n 1, 1) := by decide +kernel
theorem d_LW_cost_2 : decode b_LW_cost 2 = .ok (.iload_n 2, 1) := by decide +kernel
theorem d_LW_cost_3 : decode b_LW_cost 3 = .ok (.invokevirtual 44, 3) := by decide +kernel
theorem d_LW_cost_6 : decode b_LW_cost 6 = .ok (.goto 9, 3) := by decide +kernel
theorem d_LW_cost_9 : decode b_LW_cost 9 = .ok (.astore_n 3, 1) := by decide +kernel
theorem d_LW_cost_10 : decode b_LW_cost 10 = .ok (.iconst 1, 1) := by decide +kernel
theorem d_LW_cost_11 : decode b_LW_cost 11 = .ok (.ireturn, 1) := by decide +kernel
theorem d_LW_cost_12 : decode b_LW_cost 12 = .ok (.astore_n 3, 1) := by decide +kernel
theorem d_LW_cost_13 : decode b_LW_cost 13 = .ok (.iconst 2, 1) := by decide +kernel
theorem d_LW_cost_14 : decode b_LW_cost 14 = .ok (.ireturn, 1) := by decide +kernel
theorem d_LW_cost_15 : decode b_LW_cost 15 = .ok (.iconst 0, 1) := by decide +kernel
theorem d_LW_cost_16 : decode b_LW_cost 16 = .ok (.ireturn, 1) := by decide +kernel
theorem d_LW_tell_0 : decode b_LW_tell 0 = .ok (.aload_n 0, 1) := by decide +kernel
theorem d_LW_tell_1 : decode b_LW_tell 1 = .ok (.iload_n 1, 1) := by decide +kernel
theorem d_LW_tell_2 : decode b_LW_tell 2 = .ok (.iload_n 2, 1) := by decide +kernel
theorem d_LW_tell_3 : decode b_LW_tell 3 = .ok (.invokevirtual 37, 3) := by decide +kernel
theorem d_LW_tell_6 : decode b_LW_tell 6 = .ok (.goto 9, 3) := by decide +kernel
theorem d_LW_tell_9 : decode b_LW_tell 9 = .ok (.astore_n 3, 1) := by decide +kernel
theorem d_LW_tell_10 : decode b_LW_tell 10 = .ok (.iconst 1, 1) := by decide +kernel
theorem d_LW_tell_11 : decode b_LW_tell 11 = .ok (.ireturn, 1) := by decide +kernel
theorem d_LW_tell_12 : decode b_LW_tell 12 = .ok (.astore_n 3, 1) := by decide +kernel
theorem d_LW_tell_13 : decode b_LW_tell 13 = .ok (.iconst 2, 1) := by decide +kernel
theorem d_LW_tell_14 : decode b_LW_tell 14 = .ok (.ireturn, 1) := by decide +kernel
theorem d_LW_tell_15 : decode b_LW_tell 15 = .ok (.iconst 0, 1) := by decide +kernel
theorem d_LW_tell_16 : decode b_LW_tell 16 = .ok (.ireturn, 1) := by decide +kernel
