theorem d_VL_take_53 : decode b_VL_take 53 = .ok (.bastore, 1) := by decide +kernel
theorem d_VL_take_54 : decode b_VL_take 54 = .ok (.iinc 2 1, 3) := by decide +kernel
theorem d_VL_take_57 : decode b_VL_take 57 = .ok (.goto (-29), 3) := by decide +kernel
theorem d_VL_take_60 : decode b_VL_take 60 = .ok (.aload_n 0, 1) := by decide +kernel
theorem d_VL_take_61 : decode b_VL_take 61 = .ok (.dup, 1) := by decide +kernel
theorem d_VL_take_62 : decode b_VL_take 62 = .ok (.getfield 26, 3) := by decide +kernel
theorem d_VL_take_65 : decode b_VL_take 65 = .ok (.iconst 1, 1) := by decide +kernel
theorem d_VL_take_66 : decode b_VL_take 66 = .ok (.iadd, 1) := by decide +kernel
theorem d_VL_take_67 : decode b_VL_take 67 = .ok (.putfield 26, 3) := by decide +kernel
theorem d_VL_take_70 : decode b_VL_take 70 = .ok (.iconst 1, 1) := by decide +kernel
theorem d_VL_take_71 : decode b_VL_take 71 = .ok (.ireturn, 1) := by decide +kernel
theorem d_VL_takeFrom_0 : decode b_VL_takeFrom 0 = .ok (.iconst 0, 1) := by decide +kernel
theorem d_VL_takeFrom_1 : decode b_VL_takeFrom 1 = .ok (.istore_n 3, 1) := by decide +kernel
theorem d_VL_takeFrom_2 : decode b_VL_takeFrom 2 = .ok (.iload_n 3, 1) := by decide +kernel
theorem d_VL_takeFrom_3 : decode b_VL_takeFrom 3 = .ok (.aload_n 0, 1) := by decide +kernel
theorem d_VL_takeFrom_4 : decode b_VL_takeFrom 4 = .ok (.getfield 19, 3) := by decide +kernel
theorem d_VL_takeFrom_7 : decode b_VL_takeFrom 7 = .ok (.if_icmp .ge 21, 3) := by decide +kernel
theorem d_VL_takeFrom_10 : decode b_VL_takeFrom 10 = .ok (.aload_n 1, 1) := by decide +kernel
theorem d_VL_takeFrom_11 : decode b_VL_takeFrom 11 = .ok (.iload_n 3, 1) := by decide +kernel
theorem d_VL_takeFrom_12 : decode b_VL_takeFrom 12 = .ok (.dup2, 1) := by decide +kernel
theorem d_VL_takeFrom_13 : decode b_VL_takeFrom 13 = .ok (.iaload, 1) := by decide +kernel
theorem d_VL_takeFrom_14 : decode b_VL_takeFrom 14 = .ok (.aload_n 0, 1) := by decide +kernel
theorem d_VL_takeFrom_15 : decode b_VL_takeFrom 15 = .ok (.iload_n 2, 1) := by decide +kernel
theorem d_VL_takeFrom_16 : decode b_VL_takeFrom 16 = .ok (.iload_n 3, 1) := by decide +kernel
theorem d_VL_takeFrom_17 : decode b_VL_takeFrom 17 = .ok (.invokevirtual 43, 3) := by decide +kernel
theorem d_VL_takeFrom_20 : decode b_VL_takeFrom 20 = .ok (.isub, 1) := by decide +kernel
theorem d_VL_takeFrom_21 : decode b_VL_takeFrom 21 = .ok (.iastore, 1) := by decide +kernel
theorem d_VL_takeFrom_22 : decode b_VL_takeFrom 22 = .ok (.iinc 3 1, 3) := by decide +kernel
theorem d_VL_takeFrom_25 : decode b_VL_takeFrom 25 = .ok (.goto (-23), 3) := by decide +kernel
theorem d_VL_takeFrom_28 : decode b_VL_takeFrom 28 = .ok (.return_, 1) := by decide +kernel
