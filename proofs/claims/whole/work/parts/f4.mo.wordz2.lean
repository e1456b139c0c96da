theorem d_MO_tell_0 : decode b_MO_tell 0 = .ok (.aload_n 0, 1) := by decide +kernel
theorem d_MO_tell_1 : decode b_MO_tell 1 = .ok (.aload_n 0, 1) := by decide +kernel
theorem d_MO_tell_2 : decode b_MO_tell 2 = .ok (.iload_n 1, 1) := by decide +kernel
theorem d_MO_tell_3 : decode b_MO_tell 3 = .ok (.invokevirtual 194, 3) := by decide +kernel
theorem d_MO_tell_6 : decode b_MO_tell 6 = .ok (.ifCond .ne 7, 3) := by decide +kernel
theorem d_MO_tell_9 : decode b_MO_tell 9 = .ok (.iconst 1, 1) := by decide +kernel
theorem d_MO_tell_10 : decode b_MO_tell 10 = .ok (.goto 20, 3) := by decide +kernel
theorem d_MO_tell_13 : decode b_MO_tell 13 = .ok (.iload_n 2, 1) := by decide +kernel
theorem d_MO_tell_14 : decode b_MO_tell 14 = .ok (.bipush (-99), 2) := by decide +kernel
theorem d_MO_tell_16 : decode b_MO_tell 16 = .ok (.if_icmp .lt 9, 3) := by decide +kernel
theorem d_MO_tell_19 : decode b_MO_tell 19 = .ok (.iload_n 2, 1) := by decide +kernel
theorem d_MO_tell_20 : decode b_MO_tell 20 = .ok (.bipush 99, 2) := by decide +kernel
theorem d_MO_tell_22 : decode b_MO_tell 22 = .ok (.if_icmp .le 7, 3) := by decide +kernel
theorem d_MO_tell_25 : decode b_MO_tell 25 = .ok (.iconst 2, 1) := by decide +kernel
theorem d_MO_tell_26 : decode b_MO_tell 26 = .ok (.goto 4, 3) := by decide +kernel
theorem d_MO_tell_29 : decode b_MO_tell 29 = .ok (.iconst 0, 1) := by decide +kernel
theorem d_MO_tell_30 : decode b_MO_tell 30 = .ok (.putfield 81, 3) := by decide +kernel
theorem d_MO_tell_33 : decode b_MO_tell 33 = .ok (.aload_n 0, 1) := by decide +kernel
theorem d_MO_tell_34 : decode b_MO_tell 34 = .ok (.getfield 81, 3) := by decide +kernel
theorem d_MO_tell_37 : decode b_MO_tell 37 = .ok (.ifCond .ne 10, 3) := by decide +kernel
theorem d_MO_tell_40 : decode b_MO_tell 40 = .ok (.aload_n 0, 1) := by decide +kernel
theorem d_MO_tell_41 : decode b_MO_tell 41 = .ok (.getfield 56, 3) := by decide +kernel
theorem d_MO_tell_44 : decode b_MO_tell 44 = .ok (.iload_n 1, 1) := by decide +kernel
theorem d_MO_tell_45 : decode b_MO_tell 45 = .ok (.iload_n 2, 1) := by decide +kernel
theorem d_MO_tell_46 : decode b_MO_tell 46 = .ok (.iastore, 1) := by decide +kernel
theorem d_MO_tell_47 : decode b_MO_tell 47 = .ok (.return_, 1) := by decide +kernel
theorem d_MO_times_0 : decode b_MO_times 0 = .ok (.aload_n 0, 1) := by decide +kernel
theorem d_MO_times_1 : decode b_MO_times 1 = .ok (.iconst 0, 1) := by decide +kernel
theorem d_MO_times_2 : decode b_MO_times 2 = .ok (.putfield 81, 3) := by decide +kernel
theorem d_MO_times_5 : decode b_MO_times 5 = .ok (.aload_n 0, 1) := by decide +kernel
theorem d_MO_times_6 : decode b_MO_times 6 = .ok (.getfield 146, 3) := by decide +kernel
theorem d_MO_times_9 : decode b_MO_times 9 = .ok (.ifCond .eq 26, 3) := by decide +kernel
theorem d_MO_times_12 : decode b_MO_times 12 = .ok (.iload_n 1, 1) := by decide +kernel
theorem d_MO_times_13 : decode b_MO_times 13 = .ok (.ifCond .lt 22, 3) := by decide +kernel
theorem d_MO_times_16 : decode b_MO_times 16 = .ok (.iload_n 1, 1) := by decide +kernel
theorem d_MO_times_17 : decode b_MO_times 17 = .ok (.aload_n 0, 1) := by decide +kernel
theorem d_MO_times_18 : decode b_MO_times 18 = .ok (.getfield 48, 3) := by decide +kernel
theorem d_MO_times_21 : decode b_MO_times 21 = .ok (.iconst 0, 1) := by decide +kernel
theorem d_MO_times_22 : decode b_MO_times 22 = .ok (.iaload, 1) := by decide +kernel
theorem d_MO_times_23 : decode b_MO_times 23 = .ok (.if_icmp .ge 12, 3) := by decide +kernel
theorem d_MO_times_26 : decode b_MO_times 26 = .ok (.aload_n 0, 1) := by decide +kernel
theorem d_MO_times_27 : decode b_MO_times 27 = .ok (.getfield 62, 3) := by decide +kernel
theorem d_MO_times_30 : decode b_MO_times 30 = .ok (.iload_n 1, 1) := by decide +kernel
theorem d_MO_times_31 : decode b_MO_times 31 = .ok (.iaload, 1) := by decide +kernel
theorem d_MO_times_32 : decode b_MO_times 32 = .ok (.goto 4, 3) := by decide +kernel
theorem d_MO_times_35 : decode b_MO_times 35 = .ok (.iconst (-1), 1) := by decide +kernel
theorem d_MO_times_36 : decode b_MO_times 36 = .ok (.ireturn, 1) := by decide +kernel
