theorem d_SE_put_28 : decode b_SE_put 28 = .ok (.aload_n 0, 1) := by decide +kernel
theorem d_SE_put_29 : decode b_SE_put 29 = .ok (.getfield 15, 3) := by decide +kernel
theorem d_SE_put_32 : decode b_SE_put 32 = .ok (.iload 4, 2) := by decide +kernel
theorem d_SE_put_34 : decode b_SE_put 34 = .ok (.dup2, 1) := by decide +kernel
theorem d_SE_put_35 : decode b_SE_put 35 = .ok (.iaload, 1) := by decide +kernel
theorem d_SE_put_36 : decode b_SE_put 36 = .ok (.iload_n 3, 1) := by decide +kernel
theorem d_SE_put_37 : decode b_SE_put 37 = .ok (.aload_n 0, 1) := by decide +kernel
theorem d_SE_put_38 : decode b_SE_put 38 = .ok (.getfield 26, 3) := by decide +kernel
theorem d_SE_put_41 : decode b_SE_put 41 = .ok (.iload 4, 2) := by decide +kernel
theorem d_SE_put_43 : decode b_SE_put 43 = .ok (.aaload, 1) := by decide +kernel
theorem d_SE_put_44 : decode b_SE_put 44 = .ok (.iload_n 1, 1) := by decide +kernel
theorem d_SE_put_45 : decode b_SE_put 45 = .ok (.iaload, 1) := by decide +kernel
theorem d_SE_put_46 : decode b_SE_put 46 = .ok (.imul, 1) := by decide +kernel
theorem d_SE_put_47 : decode b_SE_put 47 = .ok (.isub, 1) := by decide +kernel
theorem d_SE_put_48 : decode b_SE_put 48 = .ok (.iastore, 1) := by decide +kernel
theorem d_SE_put_49 : decode b_SE_put 49 = .ok (.iinc 4 1, 3) := by decide +kernel
theorem d_SE_put_52 : decode b_SE_put 52 = .ok (.goto (-33), 3) := by decide +kernel
theorem d_SE_put_55 : decode b_SE_put 55 = .ok (.return_, 1) := by decide +kernel
